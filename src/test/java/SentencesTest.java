/** Sentences of the terms that can be misread, each held against the less plain states as well. */
public final class SentencesTest {
    private static final Check CHECK = new Check();
    private static final int NO_CLAIMS = 0;
    private static final int ALL_CLAIMS = 1 + 2 + 4;

    private static Rig admitted(int segments, int limit, int claims, int[] program, int... cards) {
        Rig rig = new Rig(4, 1, 9);
        rig.load(segments, limit, claims, program, cards);
        rig.line("A0");
        return rig;
    }

    /** Two lines are printed, then it begins to end with this outcome. */
    private static Rig endingWith(int outcome) {
        int[] last = {0, Rig.END, Rig.op(Rig.SET, 1), Rig.op(Rig.GET, 1), -1, Rig.op(Rig.ASK)};
        Rig rig = admitted(1, outcome == 2 ? 4 : 9, ALL_CLAIMS, Rig.ints(Rig.op(Rig.GET, 1), Rig.op(Rig.GET, 2),
                Rig.op(Rig.PRINT), Rig.op(Rig.PRINT), last[outcome]));
        rig.settle();
        if (outcome == 5) {
            rig.line("C0");
            rig.settle();
        }
        return rig;
    }

    /** "In the end it is OVER, with an OUTCOME" and "1 the outcome (0)": none while it is ENDING. */
    private static void theOutcomeComesInTheEnd() {
        for (int outcome = 1; outcome <= 5; outcome++) {
            Rig rig = endingWith(outcome);
            String said = outcome == 5 ? "0?/" : "";
            CHECK.due(outcome + ": its ending waits", rig.process(0) + " " + rig.x.job(0, 0), "-1 4 2");
            CHECK.due(outcome + ": no outcome yet", rig.x.job(0, 1), 0);
            rig.x.done(2);
            rig.settle();
            CHECK.due(outcome + ": a line is left", rig.process(0) + " " + rig.x.job(0, 1), "-1 4 0");
            rig.x.done(2);
            rig.x.tick(1);
            CHECK.due(outcome + ": woken", rig.process(0) + " " + rig.x.job(0, 1) + rig.said(), "0 0 0" + said);
            rig.x.tick(1);
            CHECK.due(outcome + ": over", rig.x.job(0, 0) + " " + rig.x.job(0, 1) + " " + rig.said(),
                    "3 " + outcome + " " + said + "0=" + outcome + "/");
        }
    }

    /** "as are admitted (not over) then": one that is ending counts, one that is over does not. */
    private static void howManyAreAdmittedThen() {
        for (int frames = 4; frames <= 12; frames++) {
            Rig rig = new Rig(frames, 1, 9);
            int most = frames / 2;
            rig.load(1, 9, ALL_CLAIMS, Rig.ints(Rig.op(Rig.GET, 1), Rig.op(Rig.GET, 2), Rig.op(Rig.PRINT), Rig.END));
            for (int k = 1; k < 6; k++) {
                rig.load(1, 9, NO_CLAIMS, Rig.ints(Rig.op(Rig.ASK)));
            }
            for (int k = 0; k < most; k++) {
                rig.line("A" + k);
                rig.settle();
            }
            String said = "1?/2?/3?/4?/5?/".substring(0, 3 * (most - 1));
            CHECK.due(frames + " frames", rig.x.about(8) + " " + rig.said(), most + " " + said);
            CHECK.due("the first is ending", rig.process(0) + " " + rig.x.job(0, 0), "-1 4 2");
            rig.line("A" + most);
            rig.settle();
            CHECK.due(frames + " frames, one more", rig.x.about(8) + " " + rig.said(), most + " " + said + "?/");
            rig.x.done(2);
            rig.settle();
            CHECK.due("the first is over", rig.x.about(8) + " " + rig.x.job(0, 0), most - 1 + " 3");
            if (most < 6) {
                rig.line("A" + most);
                rig.settle();
                CHECK.due("room for it now", rig.x.about(8) + " " + rig.x.job(most, 0), most + " 2");
            }
        }
    }

    /** "or that in which it came": the step behind the reading, however long the drum was done before. */
    private static void usedWhenItCame() {
        for (int before = 0; before < 9; before++) {
            Rig rig = admitted(1, 500, NO_CLAIMS, Rig.ints(Rig.op(Rig.JUMP, 0)));
            rig.load(1, 50, NO_CLAIMS, Rig.ints(Rig.op(Rig.SET, 3)));
            rig.x.tick(3);
            rig.x.done(0);
            rig.line("A1");
            for (int i = 0; i < 200 && !rig.process(1).equals("-1 1"); i++) {
                rig.x.tick(1);
            }
            for (int i = 0; i < 200 && rig.x.about(1) == 0; i++) {
                rig.x.tick(1);
            }
            CHECK.due("job 0 runs alone while the drum reads", rig.row() + " " + rig.frame(1), "0 busy");
            rig.x.tick(before);
            rig.x.done(0);
            int done = rig.x.about(0);
            CHECK.due("the drum is done, but it has not come", rig.row() + " " + rig.frame(1), "06 busy");
            for (int i = 0; i < 20 && rig.x.frame(1, 0) == -2; i++) {
                rig.x.tick(1);
            }
            int now = rig.x.about(0);
            CHECK.due("it came", rig.frame(1) + " " + rig.x.about(9), "1.0p@" + now + " 2");
            CHECK.due("later than the drum was done", now > done, true);
            rig.x.tick(1);
            CHECK.due("not used yet", rig.frame(1), "1.0p@" + now);
        }
    }

    /** Jumps into segment 1, whose first word is this one; at the step in which it begins to end. */
    private static Rig inTheSecondSegment(int limit, int word) {
        int[] program = new int[17];
        program[0] = Rig.op(Rig.JUMP, 16);
        program[16] = word;
        Rig rig = admitted(3, limit, NO_CLAIMS, program);
        rig.x.tick(3);
        rig.x.done(0);
        rig.x.tick(4);
        return rig;
    }

    /** "Done, .. none is PINNED any more. .. Kind 0: .. none PINNED. TRAP: with 4 (no step)." */
    private static void pinnedAtTheEnd() {
        Rig rig = inTheSecondSegment(1, Rig.END);
        CHECK.due("at its limit it asks for nothing", rig.frames(2) + " " + rig.said() + rig.x.about(9), "free free 0=2/1");

        int[] words = {Rig.END, -1, Rig.op(20), Rig.op(Rig.READ), Rig.op(Rig.GET, 0), Rig.op(Rig.LOAD, 48)};
        String[] due = {"0.1@9", "0.1p@9", "0.1p@9", "0.1p@9", "0.1p@9", "0.1p@9"};
        int[] outcomes = {1, 4, 4, 4, 3, 4};
        for (int i = 0; i < words.length; i++) {
            rig = inTheSecondSegment(9, words[i]);
            rig.x.done(0);
            rig.x.tick(1);
            CHECK.due("it came", rig.frames(2), "0.0@5 0.1p@8");
            rig.x.tick(1);
            CHECK.due("the word " + words[i], rig.frames(2), "0.0@5 " + due[i]);
            CHECK.due("its steps and PLACE", rig.x.job(0, 2) + " " + rig.x.job(0, 3), i == 0 ? "2 17" : "1 16");
            rig.x.tick(1);
            CHECK.due("over", rig.frames(2) + " " + rig.said(), "free free 0=" + outcomes[i] + "/");
        }

        rig = inTheSecondSegment(9, Rig.op(Rig.DIV, 32));
        rig.x.done(0);
        rig.x.tick(3);
        rig.x.done(0);
        rig.x.tick(1);
        CHECK.due("both came", rig.frames(3), "0.0@5 0.1p@8 0.2p@11");
        rig.x.tick(1);
        CHECK.due("a TRAP with both", rig.frames(3) + " " + rig.x.job(0, 2), "0.0@5 0.1p@12 0.2p@12 1");

        rig = inTheSecondSegment(9, Rig.END);
        rig.line("C0");
        rig.x.tick(1);
        CHECK.due("told to cancel, it waits for the segment all the same", rig.process(0), "-1 1");
        rig.x.done(0);
        rig.x.tick(2);
        CHECK.due("what is cancelled looks at no word", rig.frames(2), "0.0@5 0.1p@9");
        rig.x.tick(1);
        CHECK.due("cancelled", rig.frames(2) + " " + rig.said(), "free free 0=5/");
    }

    /** A "C0" to what rig is: whether it is obeyed and whether job 0 is woken by it. */
    private static void cancels(String what, Rig rig, int waitsFor, boolean wakes) {
        String said = rig.said();
        int place = rig.x.process(0, 0);
        CHECK.due(what + ": waits for", rig.x.process(0, 1), waitsFor);
        rig.line("C0");
        rig.x.tick(1);
        CHECK.due(what + ": obeyed", rig.said(), said);
        CHECK.due(what + ": told", rig.x.job(0, 12), 1);
        CHECK.due(what + ": then waits for", rig.x.process(0, 1), wakes ? 0 : waitsFor);
        CHECK.due(what + ": its place", rig.x.process(0, 0), wakes ? 0 : place);
        rig.line("C0");
        rig.x.tick(wakes ? 3 : 1);
        CHECK.due(what + ": once more", rig.said().startsWith(said + "?"), false);
        rig.finish(0);
        boolean keeps = what.startsWith("ending");
        CHECK.due(what + ": in the end", rig.x.job(0, 0) + " " + rig.x.job(0, 1), keeps ? "3 1" : "3 5");
    }

    private static void refusesToCancel(String what, Rig rig) {
        String said = rig.said();
        int told = rig.x.job(0, 12);
        String row = rig.row();
        rig.line("C0");
        rig.x.tick(1);
        CHECK.due(what, rig.said() + rig.x.job(0, 12) + rig.row(), said + "?/" + told + row);
    }

    /** "Ck": "a job that is admitted, not over: it is told to cancel; if it waits for a reply, or in the row ..". */
    private static void whoIsToldToCancel() {
        Rig rig = admitted(1, 9, NO_CLAIMS, Rig.ints(Rig.END));
        rig.x.tick(3);
        cancels("a segment", rig, 1, false);

        rig = admitted(1, 9, ALL_CLAIMS, Rig.ints(Rig.op(Rig.GET, 0), Rig.op(Rig.READ)), 5);
        rig.settle();
        cancels("a card", rig, 2, false);

        int print = Rig.op(Rig.PRINT);
        int[] prints = {Rig.op(Rig.GET, 1), Rig.op(Rig.GET, 2), print, print, print, print, print};
        rig = admitted(1, 9, ALL_CLAIMS, prints);
        rig.settle();
        cancels("room", rig, 3, false);

        prints[3] = Rig.op(Rig.GIVE, 2);
        rig = admitted(1, 9, ALL_CLAIMS, prints);
        rig.settle();
        cancels("empty lines", rig, 4, false);

        prints[3] = Rig.END;
        rig = admitted(1, 9, ALL_CLAIMS, prints);
        rig.settle();
        cancels("ending, empty lines", rig, 4, false);

        rig = admitted(1, 9, NO_CLAIMS, Rig.ints(Rig.op(Rig.ASK)));
        rig.settle();
        cancels("a reply", rig, 5, true);

        rig = new Rig(4, 1, 9);
        rig.load(1, 9, ALL_CLAIMS, Rig.ints(Rig.op(Rig.GET, 0)));
        rig.load(1, 9, ALL_CLAIMS, Rig.ints(Rig.op(Rig.GET, 0), Rig.op(Rig.ASK)));
        rig.line("A1");
        rig.settle();
        rig.line("A0");
        rig.settle();
        cancels("a resource", rig, 6, true);
    }

    private static void whoIsNot() {
        Rig rig = new Rig(4, 1, 9);
        refusesToCancel("no job", rig);
        rig.load(1, 9, NO_CLAIMS, Rig.ints(Rig.END));
        refusesToCancel("one that waits for admission", rig);
        rig.line("A0");
        rig.finish(0);
        refusesToCancel("one that is over", rig);
        rig.load(1, 9, NO_CLAIMS, Rig.ints(Rig.op(Rig.ASK)));
        rig.line("A0");
        rig.settle();
        rig.line("C0");
        rig.finish(0);
        CHECK.due("cancelled", rig.x.job(0, 1), 5);
        refusesToCancel("one that is over and was cancelled", rig);
    }

    /** "SAFE: all admitted jobs that are not over": what one that is over still shows helps nobody. */
    private static void whatIsOverHelpsNobody() {
        Rig rig = new Rig(6, 2, 9);
        int page = Rig.op(Rig.GET, 2);
        for (int k = 0; k < 3; k++) {
            rig.load(1, 9, 4 * 2, Rig.ints(page, k == 0 ? page : Rig.op(Rig.ASK), k == 0 ? Rig.END : page, Rig.END));
        }
        rig.line("A0");
        rig.finish(0);
        CHECK.due("over with two pages", rig.x.job(0, 0) + " " + rig.held(0) + ", " + rig.free(), "3 0 0 2, 1 1 2");
        rig.line("A1");
        rig.settle();
        rig.line("A2");
        rig.settle();
        CHECK.due("one page each would not be safe", rig.held(1) + ", " + rig.held(2) + ", " + rig.process(2),
                "0 0 1, 0 0 0, -1 6");
        rig.line("R1 0");
        rig.settle();
        CHECK.due("the first of them has both and ends", rig.x.job(1, 0) + " " + rig.held(1), "3 0 0 2");
        CHECK.due("then the other has one", rig.held(2) + ", " + rig.process(2) + ", " + rig.free(),
                "0 0 1, -1 5, 1 1 1");
    }

    /** "it is OVER ..; the row of GETS is gone through": what it held is free then, and is counted once. */
    private static void theRowBehindAnEnding() {
        Rig rig = new Rig(6, 2, 9);
        int page = Rig.op(Rig.GET, 2);
        for (int k = 0; k < 3; k++) {
            rig.load(1, 9, 4 * 2, k == 0 ? Rig.ints(page, page, Rig.op(Rig.ASK), Rig.END)
                    : Rig.ints(page, Rig.op(Rig.ASK), page, Rig.END));
            rig.line("A" + k);
            rig.settle();
        }
        CHECK.due("job 0 has both pages, the others wait", rig.waits().substring(0, 3) + ", " + rig.free(),
                "566, 1 1 0");
        rig.line("R0 0");
        rig.settle();
        CHECK.due("job 0 is over, one of the others has a page", rig.x.job(0, 0) + " " + rig.held(1) + " "
                + rig.held(2) + " " + rig.waits().substring(0, 3) + ", " + rig.free(), "3 0 0 1 0 0 0 056, 1 1 1");
        rig.line("R1 0");
        rig.settle();
        CHECK.due("it has the second, and is over", rig.x.job(1, 0) + " " + rig.held(2) + ", " + rig.free(),
                "3 0 0 1, 1 1 1");
    }

    public static void main(String[] args) {
        theOutcomeComesInTheEnd();
        howManyAreAdmittedThen();
        usedWhenItCame();
        pinnedAtTheEnd();
        whoIsToldToCancel();
        whoIsNot();
        whatIsOverHelpsNobody();
        theRowBehindAnEnding();
        CHECK.finish();
    }
}
