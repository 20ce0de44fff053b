/** Promise 2: feed. */
public final class Promise02Test {
    private static final Check CHECK = new Check();

    public static void main(String[] args) {
        DrumLayers x = new DrumLayers(4, 1, 1);
        for (int n = 4; n <= 200; n += 4) {
            CHECK.due("feed to " + n, x.feed(n - 3, n - 2, n - 1, n), n);
        }
        CHECK.due("feed beyond 200", x.feed(-1, -1, -1, -1), -1);
        CHECK.due("feed beyond 200 again", x.feed(-1, -1, -1, -1), -1);

        CHECK.due("submit of the first 128 and 40", x.submit(128, 40, 8, 1, 0), 0);
        for (int i = 0; i < 128; i++) {
            CHECK.due("word " + i + " comes in the order fed", x.word(0, i), i + 1);
        }
        CHECK.due("feed on an empty tape", x.feed(Integer.MIN_VALUE, Integer.MAX_VALUE, 0, -7), 4);
        CHECK.due("feed behind it", x.feed(5, 6, 7, 8), 8);
        CHECK.due("submit of all", x.submit(8, 0, 1, 1, 0), 1);
        int[] words = {Integer.MIN_VALUE, Integer.MAX_VALUE, 0, -7, 5, 6, 7, 8};
        for (int i = 0; i < 8; i++) {
            CHECK.due("word " + i, x.word(1, i), words[i]);
        }
        CHECK.finish();
    }
}
