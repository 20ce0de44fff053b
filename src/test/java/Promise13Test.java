/** Promise 13: octet. */
public final class Promise13Test {
    private static final Check CHECK = new Check();

    private static void whatIsSaid() {
        Rig rig = new Rig(12, 1, 9);
        CHECK.due("nothing said", rig.x.octet(0), -1);
        for (int k = 0; k < 6; k++) {
            rig.load(1, 50, 0, k % 2 == 0 ? Rig.ints(Rig.op(Rig.ASK)) : Rig.ints(-1));
        }
        rig.line("A5");
        rig.settle();
        rig.line("A4");
        rig.settle();
        rig.line("Hello");
        rig.settle();
        String due = "5=4\n4?\n?\n";
        for (int i = 0; i < due.length(); i++) {
            CHECK.due("octet(" + i + ")", rig.x.octet(i), due.charAt(i));
        }
        for (int i : new int[] {due.length(), -1, 599, 600, Integer.MIN_VALUE, Integer.MAX_VALUE}) {
            CHECK.due("octet(" + i + ")", rig.x.octet(i), -1);
        }
    }

    /** Two bytes a wrong line, and an odd number from a job, so that a saying is cut at 600. */
    private static void sixHundredAreKept() {
        Rig rig = new Rig(4, 1, 9);
        rig.load(1, 50, 0, Rig.ints(Rig.op(Rig.ASK)));
        rig.line("A0");
        rig.settle();
        for (int batch = 0; batch < 40; batch++) {
            for (int i = 0; i < 8; i++) {
                rig.x.type(10);
            }
            rig.x.tick(8);
            if (batch == 36) {
                CHECK.due("the last said", rig.x.octet(594), 10);
                CHECK.due("not yet said", rig.x.octet(595), -1);
            }
        }
        CHECK.due("said", rig.x.about(7), 643);
        CHECK.due("octet(597)", rig.x.octet(597), '?');
        CHECK.due("octet(598)", rig.x.octet(598), 10);
        CHECK.due("octet(599)", rig.x.octet(599), '?');
        CHECK.due("octet(600)", rig.x.octet(600), -1);
        CHECK.due("octet(642)", rig.x.octet(642), -1);
    }

    public static void main(String[] args) {
        whatIsSaid();
        sixHundredAreKept();
        CHECK.finish();
    }
}
