import java.util.ArrayList;
import java.util.List;

/** The boundary cases of promises 1 to 6: the last that is allowed, the first that is not. */
public final class EdgesOfCallsTest {
    private static final Check CHECK = new Check();
    private static final int LEAST = Integer.MIN_VALUE;
    private static final int MOST = Integer.MAX_VALUE;

    /** What two busy jobs are seen to do in a machine of this size. */
    private static String lifeOf(int frames, int pages, int quantum) {
        Rig rig = new Rig(frames, pages, quantum);
        int[] wanders = new int[9];
        for (int i = 0; i < 8; i++) {
            wanders[i] = Rig.op(Rig.LOAD, 16 * i + 15);
        }
        wanders[8] = Rig.op(Rig.JUMP, 0);
        rig.load(8, 5000, 0, wanders);
        rig.load(8, 5000, 0, wanders);
        rig.line("A0");
        rig.line("A1");
        StringBuilder seen = new StringBuilder(rig.free());
        for (int i = 0; i < 120; i++) {
            rig.x.tick(1);
            rig.x.done(0);
            seen.append('|').append(rig.row()).append('|').append(rig.frames(12));
        }
        return seen.append('|').append(rotation(quantum)).toString();
    }

    /** The ready row of two jobs that never wait. */
    private static String rotation(int quantum) {
        Rig rig = new Rig(4, 1, quantum);
        for (int k = 0; k < 2; k++) {
            rig.load(1, 5000, 0, Rig.ints(Rig.op(Rig.JUMP, 0)));
            rig.line("A" + k);
        }
        rig.untilAllRun();
        StringBuilder seen = new StringBuilder();
        for (int i = 0; i < 60; i++) {
            rig.x.tick(1);
            seen.append(rig.row()).append(' ');
        }
        return seen.toString();
    }

    /** Promise 1: "what is below counts as the least, what is above as the most." */
    private static void sizesBelowAndAbove() {
        String least = lifeOf(4, 1, 1);
        String most = lifeOf(12, 6, 9);
        for (int below : new int[] {0, -1, LEAST}) {
            CHECK.due("frames " + below, lifeOf(below, 1, 1), least);
            CHECK.due("pages " + below, lifeOf(4, below, 1), least);
            CHECK.due("quantum " + below, lifeOf(4, 1, below), least);
        }
        CHECK.due("frames 3", lifeOf(3, 1, 1), least);
        CHECK.due("frames 13", lifeOf(13, 6, 9), most);
        CHECK.due("pages 7", lifeOf(12, 7, 9), most);
        CHECK.due("quantum 10", lifeOf(12, 6, 10), most);
        CHECK.due("all the most", lifeOf(MOST, MOST, MOST), most);
        CHECK.due("frames 5 are one more", lifeOf(5, 1, 1).equals(least), false);
        CHECK.due("frames 11 are one less", lifeOf(11, 6, 9).equals(most), false);
        CHECK.due("pages 2 are one more", lifeOf(4, 2, 1).equals(least), false);
        CHECK.due("pages 5 are one less", lifeOf(12, 5, 9).equals(most), false);
        CHECK.due("quantum 2 is one more", lifeOf(4, 1, 2).equals(least), false);
        CHECK.due("quantum 8 is one less", lifeOf(12, 6, 8).equals(most), false);
        for (int pages = 1; pages <= 6; pages++) {
            CHECK.due("pages " + pages, new DrumLayers(4, pages, 1).about(6), pages);
        }
    }

    /** Promise 2: "NONE, doing nothing: there would be more than 200." */
    private static void theTapeIsFull() {
        Rig rig = new Rig(4, 1, 1);
        for (int n = 0; n < 49; n++) {
            rig.x.feed(4 * n, 4 * n + 1, 4 * n + 2, 4 * n + 3);
        }
        CHECK.due("the last four", rig.x.feed(196, 197, 198, 199), 200);
        String before = rig.whole();
        CHECK.due("four more", rig.x.feed(-1, -2, -3, -4), -1);
        CHECK.due("and again", rig.x.feed(-1, -2, -3, -4), -1);
        CHECK.due("nothing is done", rig.whole(), before);
        CHECK.due("submitted", rig.x.submit(128, 40, 8, 5000, 1), 0);
        for (int i = 0; i < 128; i++) {
            CHECK.due("word " + i, rig.x.word(0, i), i);
        }
        CHECK.due("there is room then", rig.x.feed(0, 0, 0, 0), 4);
    }

    private static int[] cards(int count) {
        int[] some = new int[count];
        for (int i = 0; i < count; i++) {
            some[i] = 1000 + i;
        }
        return some;
    }

    /** Promise 3: the next ints behind the program are the cards, 40 at most, each where it was fed. */
    private static void fortyCards() {
        Rig rig = new Rig(4, 1, 9);
        rig.load(1, 5000, 1, Rig.ints(Rig.op(Rig.GET, 0), Rig.op(Rig.READ), Rig.op(Rig.JUMP, 1)), cards(40));
        rig.line("A0");
        rig.settle();
        for (int i = 0; i < 40; i++) {
            CHECK.due("cards read", rig.x.job(0, 9), i);
            rig.x.done(1);
            rig.settle();
            CHECK.due("card " + i, rig.x.job(0, 4), 1000 + i);
        }
        CHECK.due("no forty-first", rig.all(0), "3 4 81 1 1039 0 1 0 0 40 0 0 0");
    }

    /** A submit on a tape of 180 ints in a machine of three pages, and what it must leave behind. */
    private static void submits(boolean due, int program, int cards, int segments, int limit, int claims) {
        String call = "submit(" + program + ", " + cards + ", " + segments + ", " + limit + ", " + claims + ")";
        Rig rig = new Rig(4, 3, 1);
        rig.feed(new int[180]);
        String before = rig.whole();
        CHECK.due(call, rig.x.submit(program, cards, segments, limit, claims), due ? 0 : -1);
        CHECK.due(call + " makes a job", rig.x.job(0, 0), due ? 1 : 0);
        if (!due) {
            CHECK.due(call + " does nothing else", rig.whole(), before);
        }
        CHECK.due("the tape behind " + call, rig.x.feed(1, 2, 3, 4), 4);
    }

    /** Promise 3: "(the tape is empty then, in any case)" and "NONE, without a job: ..". */
    private static void whatADeckMayBe() {
        for (int segments = 1; segments <= 8; segments++) {
            submits(true, 16 * segments, 0, segments, 1, 0);
            submits(false, 16 * segments + 1, 0, segments, 1, 0);
        }
        int[] wrong = {-1, LEAST, MOST};
        for (int value : wrong) {
            submits(false, value, 0, 1, 1, 0);
            submits(false, 0, value, 1, 1, 0);
            submits(false, 0, 0, value, 1, 0);
            submits(false, 0, 0, 1, value, 0);
            submits(false, 0, 0, 1, 1, value);
        }
        submits(true, 0, 0, 1, 1, 0);
        submits(true, 0, 40, 1, 1, 0);
        submits(false, 0, 41, 1, 1, 0);
        submits(true, 0, 0, 8, 1, 0);
        submits(false, 0, 0, 9, 1, 0);
        submits(false, 0, 0, 0, 1, 0);
        submits(false, 0, 0, 0, 0, 0);
        submits(true, 0, 0, 1, 5000, 0);
        submits(false, 0, 0, 1, 5001, 0);
        submits(false, 0, 0, 1, 0, 0);
        submits(true, 0, 0, 1, 1, 15);
        submits(false, 0, 0, 1, 1, 16);
        submits(true, 128, 40, 8, 5000, 15);
        // Sums that would go round must not be taken for few ints.
        submits(false, MOST, MOST, 8, 1, 0);
        submits(false, LEAST, LEAST, 8, 1, 0);
        submits(false, 0, 0, 1 << 28, 1, 0);
        submits(false, 16, 0, (1 << 28) + 1, 1, 0);
    }

    /** Promise 3: "not so many ints". */
    private static void notSoManyInts() {
        for (int fed = 0; fed <= 16; fed += 4) {
            for (int program = 0; program <= fed; program += 4) {
                for (int more = 0; more <= 1; more++) {
                    Rig rig = new Rig(4, 1, 1);
                    rig.feed(new int[fed]);
                    CHECK.due(program + " and " + (fed - program + more) + " of " + fed,
                            rig.x.submit(program, fed - program + more, 1, 1, 0), more == 0 ? 0 : -1);
                    CHECK.due("the tape then", rig.x.feed(1, 2, 3, 4), 4);
                }
            }
        }
        Rig rig = new Rig(4, 1, 1);
        rig.feed(new int[4]);
        CHECK.due("a program of 5 of 4", rig.x.submit(5, 0, 1, 1, 0), -1);
        rig.feed(new int[8]);
        CHECK.due("the four before it are gone", rig.x.submit(9, 0, 1, 1, 0), -1);
        rig.feed(new int[8]);
        CHECK.due("a program of 8 of 8", rig.x.submit(8, 0, 1, 1, 0), 0);
        CHECK.due("and none is left for the next", rig.x.submit(1, 0, 1, 1, 0), -1);
        CHECK.due("which needs none", rig.x.submit(0, 0, 1, 1, 0), 1);
    }

    /** Promise 3: "more pages than there are". */
    private static void morePagesThanThereAre() {
        for (int pages = 1; pages <= 6; pages++) {
            for (int more = 0; more <= 3; more++) {
                DrumLayers x = new DrumLayers(4, pages, 1);
                CHECK.due("claims of all " + pages, x.submit(0, 0, 1, 1, 4 * pages + more), 0);
                CHECK.due("claims of one above " + pages, x.submit(0, 0, 1, 1, 4 * pages + 4 + more), -1);
            }
        }
    }

    /** Promise 3: "the lowest of those that are no job or over (what was of it is gone)" and "no number is left". */
    private static void theLowestNumber() {
        Rig rig = new Rig(4, 1, 9);
        int[] program = {Rig.op(Rig.LOAD_X, 0), Rig.op(Rig.ASK), Rig.END};
        for (int k = 0; k < 6; k++) {
            CHECK.due("no job yet", rig.x.job(k, 0), 0);
            CHECK.due("number", rig.load(1, 50, 0, program), k);
        }
        String full = rig.whole();
        CHECK.due("a seventh", rig.load(1, 50, 0, program), -1);
        CHECK.due("does nothing", rig.whole(), full);
        CHECK.due("but for the tape", rig.x.feed(1, 2, 3, 4), 4);
        rig.line("A5");
        rig.line("A3");
        rig.settle();
        CHECK.due("admitted ones leave none", rig.x.submit(0, 0, 1, 1, 0), -1);
        rig.line("R5 55");
        rig.line("R3 33");
        rig.settle();
        CHECK.due("both are over", rig.registers(3) + "," + rig.registers(5),
                "3 1 3 3 33 " + Rig.op(Rig.LOAD_X, 0) + ",3 1 3 3 55 " + Rig.op(Rig.LOAD_X, 0));
        String over = rig.whole();
        CHECK.due("a wrong one", rig.x.submit(0, 41, 1, 1, 0), -1);
        CHECK.due("what was of those over stays", rig.whole(), over);
        CHECK.due("the lower of them", rig.load(2, 50, 0, Rig.ints(7)), 3);
        CHECK.due("what was of it is gone", rig.all(3), "1 0 0 0 0 0 0 0 0 0 0 0 0");
        CHECK.due("its words, too", rig.x.word(3, 0) + " " + rig.x.word(3, 1), "7 0");
        CHECK.due("the other is as it was", rig.registers(5), "3 1 3 3 55 " + Rig.op(Rig.LOAD_X, 0));
        CHECK.due("the other", rig.load(1, 50, 0, program), 5);
        CHECK.due("no number is left", rig.load(1, 50, 0, program), -1);
    }

    /** Promise 3: "(what was of it is gone)", of a job that had something of everything. */
    private static void whatWasOfItIsGone() {
        Rig rig = new Rig(4, 2, 9);
        int[] program = {Rig.op(Rig.GET, 0), Rig.op(Rig.GET, 1), Rig.op(Rig.GET, 2), Rig.op(Rig.READ),
            Rig.op(Rig.PRINT), Rig.op(Rig.LOAD_X, 20), Rig.op(Rig.STORE, 21), Rig.op(Rig.ASK)};
        int[] words = java.util.Arrays.copyOf(program, 24);
        words[20] = -3;
        rig.load(2, 50, 7, words, 61, 62, 63);
        rig.line("A0");
        rig.settle();
        rig.x.done(1);
        rig.settle();
        rig.x.done(2);
        rig.settle();
        rig.line("C0");
        rig.settle();
        CHECK.due("the old one", rig.all(0) + ", " + rig.paper(0), "3 5 7 7 61 -3 1 1 1 1 1 0 1, 61");
        CHECK.due("the new one's number", rig.load(2, 50, 7, Rig.ints(Rig.op(Rig.GET, 0), Rig.op(Rig.GET, 1),
                Rig.op(Rig.GET, 2), Rig.op(Rig.READ), Rig.op(Rig.PRINT), Rig.op(Rig.READ)), 91), 0);
        CHECK.due("all of it is new", rig.all(0) + ", " + rig.x.paper(0, 0), "1 0 0 0 0 0 0 0 0 0 0 0 0, 0");
        for (int i = 6; i < 32; i++) {
            CHECK.due("word " + i, rig.x.word(0, i), 0);
        }
        rig.line("A0");
        rig.settle();
        CHECK.due("it runs, and is not cancelled", rig.all(0), "2 0 3 3 0 0 1 1 1 0 0 0 0");
        rig.x.done(1);
        rig.settle();
        rig.x.done(2);
        rig.settle();
        CHECK.due("its one card, its one line", rig.all(0) + ", " + rig.paper(0),
                "3 4 5 5 91 0 1 1 1 1 1 0 0, 91");
    }

    /** Promise 4: "n TICKS (0 to 200)"; "NONE for others." */
    private static void ticks() {
        Rig rig = new Rig(4, 1, 9);
        rig.load(1, 5000, 0, Rig.ints(Rig.op(Rig.JUMP, 0)));
        rig.line("A0");
        rig.untilAllRun();
        int now = rig.x.about(0);
        String before = rig.whole();
        for (int n : new int[] {-1, 201, LEAST, MOST}) {
            CHECK.due("tick(" + n + ")", rig.x.tick(n), -1);
            CHECK.due("tick(" + n + ") does nothing", rig.whole(), before);
        }
        CHECK.due("tick(0)", rig.x.tick(0), now);
        CHECK.due("tick(0) does nothing", rig.whole(), before);
        int steps = rig.x.job(0, 2);
        CHECK.due("tick(200)", rig.x.tick(200), now + 200);
        CHECK.due("all of them are steps", rig.x.job(0, 2), steps + 200);
        CHECK.due("tick(1)", rig.x.tick(1), now + 201);
    }

    /** Promise 5: "false when it does nothing, or there is none such." */
    private static void devices() {
        Rig rig = new Rig(4, 1, 9);
        rig.load(1, 50, 7, Rig.ints(Rig.op(Rig.GET, 0), Rig.op(Rig.GET, 1), Rig.op(Rig.GET, 2), Rig.op(Rig.PRINT),
                Rig.op(Rig.READ), Rig.op(Rig.ASK)), 8);
        List<String> worked = new ArrayList<>();
        rig.line("A0");
        for (int i = 0; i < 20; i++) {
            rig.x.tick(1);
            String before = rig.whole();
            for (int device : new int[] {-1, 3, LEAST, MOST}) {
                CHECK.due("done(" + device + ")", rig.x.done(device), false);
            }
            for (int device = 0; device <= 2; device++) {
                boolean works = rig.x.about(1 + device) != 0;
                if (!works) {
                    CHECK.due("done(" + device + ") while it rests", rig.x.done(device), false);
                }
            }
            CHECK.due("nothing is done", rig.whole(), before);
            for (int device = 0; device <= 2; device++) {
                if (rig.x.about(1 + device) != 0) {
                    worked.add(String.valueOf(device));
                    CHECK.due("done(" + device + ") while it works", rig.x.done(device), true);
                    CHECK.due("done(" + device + ") once more", rig.x.done(device), false);
                    CHECK.due("it rests", rig.x.about(1 + device), 0);
                }
            }
        }
        CHECK.due("each had its work", String.join("", worked), "021");
        CHECK.due("and its end", rig.waits() + " " + rig.moved(0), "5000007777 1 1 0 0");
    }

    /** Promise 6: "False: another byte". */
    private static void otherBytes() {
        for (int b : new int[] {9, 11, 31, 127, 0, -1, 128, 255, 256 + 10, 256 + 65, LEAST, MOST}) {
            Rig rig = new Rig(4, 1, 9);
            rig.load(1, 9, 0, Rig.ints(Rig.END));
            rig.x.type('A');
            String before = rig.whole();
            CHECK.due("type(" + b + ")", rig.x.type(b), false);
            CHECK.due("type(" + b + ") does nothing", rig.whole(), before);
            rig.x.type('0');
            rig.x.type(10);
            rig.x.tick(1);
            CHECK.due("it is no part of the line", rig.x.job(0, 0), 2);
        }
        for (int b : new int[] {32, 33, 125, 126}) {
            Rig rig = new Rig(4, 1, 9);
            rig.load(1, 9, 0, Rig.ints(Rig.END));
            CHECK.due("type(" + b + ")", rig.x.type(b), true);
            rig.line("A0");
            rig.x.tick(1);
            CHECK.due("it is part of the line", rig.said() + rig.x.job(0, 0), "?/1");
        }
    }

    /** Promise 6: "a line of 20 bytes already (but for 10)". */
    private static void twentyBytes() {
        for (int length = 18; length <= 22; length++) {
            Rig rig = new Rig(4, 1, 9);
            for (int i = 0; i < length; i++) {
                CHECK.due("byte " + i, rig.x.type('A' + i), i < 20);
            }
            CHECK.due("no line yet", rig.x.about(10), 0);
            CHECK.due("a 10", rig.x.type(10), true);
            CHECK.due("the line", rig.x.about(10), 1);
            CHECK.due("a byte of the next", rig.x.type('A'), true);
            rig.x.tick(2);
            CHECK.due("one line was said to be wrong", rig.said() + rig.x.about(10), "?/0");
        }
        Rig rig = new Rig(4, 1, 9);
        rig.load(1, 9, 0, Rig.ints(Rig.END));
        rig.line("12345678901234567890A0");
        rig.line("A0");
        rig.x.tick(1);
        CHECK.due("what was refused is no line of its own", rig.x.job(0, 0), 1);
        rig.x.tick(1);
        CHECK.due("the line behind it is whole", rig.said() + rig.x.job(0, 0), "?/2");
        rig = new Rig(4, 1, 9);
        for (int line = 0; line <= 8; line++) {
            for (int i = 0; i <= 20; i++) {
                CHECK.due("line " + line + ", byte " + i, rig.x.type('0'), i < 20);
            }
            CHECK.due("line " + line + ", its 10", rig.x.type(10), line < 8);
        }
        rig.x.tick(9);
        CHECK.due("eight lines were said to be wrong", rig.x.about(7) + " " + rig.x.about(10), "16 0");
    }

    /** Promise 6: "or 8 lines in the row (for 10)". */
    private static void eightLines() {
        Rig rig = new Rig(4, 1, 1);
        rig.load(1, 9, 0, Rig.ints(Rig.END));
        for (int n = 1; n <= 7; n++) {
            rig.line("?");
        }
        CHECK.due("seven lines", rig.x.about(10), 7);
        CHECK.due("a byte", rig.x.type('?'), true);
        CHECK.due("the eighth line", rig.x.type(10), true);
        CHECK.due("eight lines", rig.x.about(10), 8);
        CHECK.due("bytes may come", rig.x.type('A') && rig.x.type('0'), true);
        String before = rig.whole();
        CHECK.due("a ninth line", rig.x.type(10), false);
        CHECK.due("a ninth line again", rig.x.type(10), false);
        CHECK.due("nothing is done", rig.whole(), before);
        rig.x.tick(1);
        CHECK.due("seven are left", rig.x.about(10), 7);
        CHECK.due("the ninth then", rig.x.type(10), true);
        CHECK.due("eight again", rig.x.about(10), 8);
        CHECK.due("a tenth", rig.x.type(10), false);
        rig.x.tick(7);
        CHECK.due("those ahead of it", rig.x.about(10) + " " + rig.x.job(0, 0), "1 1");
        rig.x.tick(1);
        CHECK.due("the ninth was kept whole", rig.x.about(10) + " " + rig.x.job(0, 0), "0 2");
    }

    /** The row and the line behind it at their fullest: 8 lines of 20 bytes and 20 bytes more. */
    private static void allThatCanBeTyped() {
        for (String ninth : new String[] {"A1", "R0 123456789", "R0 12345678900000000", "A1                  "}) {
            Rig rig = new Rig(4, 1, 9);
            rig.load(1, 9, 0, Rig.ints(Rig.op(Rig.ASK), Rig.op(Rig.ASK)));
            rig.load(1, 9, 0, Rig.ints(Rig.op(Rig.ASK)));
            rig.line("A0");
            rig.settle();
            for (int i = 0; i < 8; i++) {
                rig.line("R0 12345678900000000");
            }
            for (char c : ninth.toCharArray()) {
                CHECK.due("a byte of the ninth", rig.x.type(c), true);
            }
            CHECK.due("not yet", rig.x.type(10), false);
            rig.x.tick(1);
            CHECK.due("then", rig.x.type(10), true);
            rig.x.tick(7);
            CHECK.due("eight wrong ones", rig.said(), "0?/?/?/?/?/?/?/?/?/");
            rig.x.tick(1);
            CHECK.due("'" + ninth + "'", rig.x.about(7) + " " + rig.x.job(0, 4) + " " + rig.x.job(1, 0),
                    (ninth.length() == 20 ? 21 : 19) + (ninth.length() == 12 ? " 123456789 " : " 0 ")
                    + (ninth.length() == 2 ? 2 : 1));
        }
    }

    public static void main(String[] args) {
        sizesBelowAndAbove();
        theTapeIsFull();
        fortyCards();
        whatADeckMayBe();
        notSoManyInts();
        morePagesThanThereAre();
        theLowestNumber();
        whatWasOfItIsGone();
        ticks();
        devices();
        otherBytes();
        twentyBytes();
        eightLines();
        allThatCanBeTyped();
        CHECK.finish();
    }
}
