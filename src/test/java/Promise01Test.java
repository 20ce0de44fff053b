/** Promise 1: a new object. */
public final class Promise01Test {
    private static final Check CHECK = new Check();

    private static void newObjectIsQuiet() {
        Rig rig = new Rig(5, 3, 2);
        CHECK.due("NONE", DrumLayers.NONE, -1);
        int[] about = {0, 0, 0, 0, 1, 1, 3, 0, 0, 0, 0};
        for (int what = 0; what < about.length; what++) {
            CHECK.due("new about(" + what + ")", rig.x.about(what), about[what]);
        }
        CHECK.due("new row", rig.row(), "");
        CHECK.due("new waits", rig.waits(), "0000007777");
        for (int k = 0; k < 6; k++) {
            CHECK.due("new job", rig.registers(k) + " " + rig.held(k) + " " + rig.moved(k),
                    "0 0 0 0 0 0 0 0 0 0 0 0 0");
        }
        CHECK.due("new frames", rig.frames(5), "free free free free free");
        CHECK.due("new octet", rig.x.octet(0), -1);
    }

    /** How many frames two jobs of eight segments can fill. */
    private static int framesOf(int frames) {
        Rig rig = new Rig(frames, 1, 3);
        int[] program = new int[9];
        for (int i = 0; i < 8; i++) {
            program[i] = Rig.op(Rig.LOAD, 16 * i + 15);
        }
        program[8] = Rig.op(Rig.JUMP, 0);
        for (int k = 0; k < 2; k++) {
            rig.load(8, 5000, 0, program);
            rig.line("A" + k);
        }
        for (int i = 0; i < 100; i++) {
            rig.x.tick(3);
            rig.x.done(0);
        }
        int count = 0;
        for (int f = 0; f < 20; f++) {
            count += rig.x.frame(f, 0) != -1 ? 1 : 0;
        }
        return count;
    }

    /** How many ticks two jobs that never wait take before they change places. */
    private static int quantumOf(int quantum) {
        Rig rig = new Rig(4, 1, quantum);
        for (int k = 0; k < 2; k++) {
            rig.load(1, 5000, 0, Rig.ints(Rig.op(Rig.JUMP, 0)));
            rig.line("A" + k);
        }
        for (int i = 0; i < 60; i++) {
            rig.x.tick(1);
            rig.x.done(0);
        }
        int first = rig.x.process(0, 0);
        for (int i = 0; i < 20 && rig.x.process(0, 0) == first; i++) {
            rig.x.tick(1);
        }
        int ticks = 0;
        first = rig.x.process(0, 0);
        while (rig.x.process(0, 0) == first && ticks < 20) {
            rig.x.tick(1);
            ticks++;
        }
        return ticks;
    }

    private static void sizesAreKeptWithinTheirBounds() {
        int[][] frames = {{4, 4}, {5, 5}, {9, 9}, {12, 12}, {3, 4}, {0, 4}, {13, 12},
            {Integer.MIN_VALUE, 4}, {Integer.MAX_VALUE, 12}};
        for (int[] pair : frames) {
            CHECK.due("frames for " + pair[0], framesOf(pair[0]), pair[1]);
        }
        int[][] pages = {{1, 1}, {6, 6}, {4, 4}, {0, 1}, {7, 6}, {Integer.MIN_VALUE, 1},
            {Integer.MAX_VALUE, 6}};
        for (int[] pair : pages) {
            CHECK.due("pages for " + pair[0], new DrumLayers(4, pair[0], 1).about(6), pair[1]);
        }
        int[][] quanta = {{1, 1}, {2, 2}, {5, 5}, {9, 9}, {0, 1}, {10, 9}, {Integer.MIN_VALUE, 1},
            {Integer.MAX_VALUE, 9}};
        for (int[] pair : quanta) {
            CHECK.due("quantum for " + pair[0], quantumOf(pair[0]), pair[1]);
        }
    }

    private static void objectsAreApart() {
        DrumLayers one = new DrumLayers(4, 1, 1);
        DrumLayers other = new DrumLayers(4, 1, 1);
        one.tick(5);
        one.type(10);
        one.feed(1, 2, 3, 4);
        CHECK.due("other tick", other.about(0), 0);
        CHECK.due("other lines", other.about(10), 0);
        CHECK.due("other tape", other.feed(1, 1, 1, 1), 4);
    }

    public static void main(String[] args) {
        newObjectIsQuiet();
        sizesAreKeptWithinTheirBounds();
        objectsAreApart();
        CHECK.finish();
    }
}
