/** A machine with short ways to load, admit and watch jobs. */
final class Rig {
    static final int END = 0;
    static final int LOAD = 1;
    static final int STORE = 2;
    static final int ADD = 3;
    static final int SUB = 4;
    static final int MUL = 5;
    static final int DIV = 6;
    static final int JUMP = 7;
    static final int JUMP_NEG = 8;
    static final int JUMP_ZERO = 9;
    static final int LOAD_X = 10;
    static final int LOAD_AT = 11;
    static final int STORE_AT = 12;
    static final int READ = 13;
    static final int PRINT = 14;
    static final int ASK = 15;
    static final int GET = 16;
    static final int GIVE = 17;
    static final int SET = 18;
    static final int SET_X = 19;

    final Machine x;

    Rig(int frames, int pages, int quantum) {
        x = new Machine(frames, pages, quantum);
    }

    static int op(int kind, int a) {
        return 256 * kind + a;
    }

    static int op(int kind) {
        return 256 * kind;
    }

    static int[] ints(int... some) {
        return some;
    }

    void feed(int... some) {
        for (int i = 0; i < some.length; i += 4) {
            int[] four = new int[4];
            System.arraycopy(some, i, four, 0, Math.min(4, some.length - i));
            x.feed(four[0], four[1], four[2], four[3]);
        }
    }

    int load(int segments, int limit, int claims, int[] program, int... cards) {
        int[] all = new int[program.length + cards.length];
        System.arraycopy(program, 0, all, 0, program.length);
        System.arraycopy(cards, 0, all, program.length, cards.length);
        feed(all);
        return x.submit(program.length, cards.length, segments, limit, claims);
    }

    void line(String text) {
        for (char c : text.toCharArray()) {
            x.type(c);
        }
        x.type(10);
    }

    /** So many empty lines in a machine that is quiet but for them: the console says "?" and 10 to each. */
    void wrongLines(int count) {
        for (int left = count; left > 0; left -= 8) {
            int some = Math.min(left, 8);
            for (int i = 0; i < some; i++) {
                x.type(10);
            }
            x.tick(some);
        }
    }

    /** Goes on, the drum being quick, until nobody is ready and the drum does nothing. */
    void settle() {
        for (int i = 0; i < 100; i++) {
            x.tick(20);
            if (!x.done(0) && row().isEmpty()) {
                return;
            }
        }
    }

    /** Goes on, tick by tick and the drum being quick, until each admitted job has done a step. */
    void untilAllRun() {
        for (int i = 0; i < 100; i++) {
            x.tick(1);
            x.done(0);
            boolean all = x.about(8) > 0 && x.about(10) == 0;
            for (int k = 0; k < 6; k++) {
                all &= x.job(k, 0) != 2 || x.job(k, 2) > 0;
            }
            if (all) {
                return;
            }
        }
    }

    /** Goes on, all devices being quick, until job k is over. */
    void finish(int k) {
        for (int i = 0; i < 100 && x.job(k, 0) != 3; i++) {
            x.tick(20);
            x.done(0);
            x.done(1);
            x.done(2);
        }
    }

    /** Admits job 0 with this program in a quiet machine, and runs it to its end. */
    static Rig ran(int segments, int limit, int claims, int[] program, int... cards) {
        Rig rig = new Rig(4, 2, 3);
        rig.load(segments, limit, claims, program, cards);
        rig.line("A0");
        rig.finish(0);
        return rig;
    }

    String said() {
        StringBuilder text = new StringBuilder();
        for (int i = 0; x.octet(i) != DrumLayers.NONE; i++) {
            text.append(x.octet(i) == 10 ? '/' : (char) x.octet(i));
        }
        return text.toString();
    }

    /** The ready row as digits, the first one first. */
    String row() {
        char[] row = new char[10];
        int length = 0;
        for (int k = 0; k < 10; k++) {
            int place = x.process(k, 0);
            if (place >= 0 && place < 10) {
                row[place] = (char) ('0' + k);
                length++;
            }
        }
        return new String(row, 0, length);
    }

    /** What the processes 0 to 9 wait for, a digit each. */
    String waits() {
        StringBuilder text = new StringBuilder();
        for (int k = 0; k < 10; k++) {
            text.append(x.process(k, 1));
        }
        return text.toString();
    }

    /** Place in the row, and what it waits for. */
    String process(int k) {
        return x.process(k, 0) + " " + x.process(k, 1);
    }

    /** "free", "busy", or job.segment, c for CHANGED, p for PINNED, and @USED. */
    String frame(int f) {
        int owner = x.frame(f, 0);
        if (owner < 0) {
            StringBuilder text = new StringBuilder(owner == -2 ? "busy" : "free");
            for (int what = 1; what <= 4; what++) {
                if (x.frame(f, what) != DrumLayers.NONE) {
                    text.append(" but ").append(what);
                }
            }
            return text.toString();
        }
        return owner + "." + x.frame(f, 1) + (x.frame(f, 2) == 1 ? "c" : "")
                + (x.frame(f, 3) == 1 ? "p" : "") + "@" + x.frame(f, 4);
    }

    String frames(int count) {
        StringBuilder text = new StringBuilder();
        for (int f = 0; f < count; f++) {
            text.append(f == 0 ? "" : " ").append(frame(f));
        }
        return text.toString();
    }

    /** State, outcome, steps, PLACE, A, X. */
    String registers(int k) {
        return numbers(k, 0, 5);
    }

    /** Reader, printer, pages held. */
    String held(int k) {
        return numbers(k, 6, 8);
    }

    /** Cards read, lines on paper, lines not yet there, told to cancel. */
    String moved(int k) {
        return numbers(k, 9, 12);
    }

    String free() {
        return x.about(4) + " " + x.about(5) + " " + x.about(6);
    }

    String paper(int k) {
        StringBuilder text = new StringBuilder();
        for (int i = 0; i < x.job(k, 10); i++) {
            text.append(i == 0 ? "" : " ").append(x.paper(k, i));
        }
        return text.toString();
    }

    /** All that job(k, ..) tells. */
    String all(int k) {
        return numbers(k, 0, 12);
    }

    /** All that can be seen without a change, so that a refused call can be shown to do nothing. */
    String whole() {
        StringBuilder text = new StringBuilder(row()).append('|').append(waits());
        for (int k = 0; k < 6; k++) {
            text.append('|').append(all(k)).append('|').append(paper(k)).append('|');
            for (int i = 0; i < 128; i++) {
                text.append(x.word(k, i)).append(' ');
            }
        }
        text.append('|').append(frames(12)).append('|');
        for (int what = 0; what <= 10; what++) {
            text.append(x.about(what)).append(' ');
        }
        return text.append('|').append(said()).toString();
    }

    private String numbers(int k, int from, int to) {
        StringBuilder text = new StringBuilder();
        for (int what = from; what <= to; what++) {
            text.append(what == from ? "" : " ").append(x.job(k, what));
        }
        return text.toString();
    }
}
