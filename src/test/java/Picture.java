/** All that can be seen of a court, and how it would go on, asked by calls that change nothing. */
final class Picture {
    private final int[] seen = new int[240];
    private int size = 0;

    Picture(ShadowCourt court) {
        int[] counts = {0, 1, 2, 3, 4, 5, 6, 7, 8, 10, 11, 20, 21, 30, 31, 32, 33};
        for (int what : counts) {
            add(court.count(what));
        }
        for (int spot = 0; spot < 100; spot += 3) {
            add(court.count(100 + spot));
        }
        for (int f = 0; f < 10; f++) {
            for (int what = 0; what < 6; what++) {
                add(court.felonIs(f, what));
            }
        }
        for (int what = 0; what < 3; what++) {
            add(court.atOnce(what));
            add(court.dark(9, what));
        }
        int[] minutes = {1, 7, 60};
        for (int n : minutes) {
            for (int what = 0; what < 6; what++) {
                add(court.tried(n, what));
            }
            add(court.tried(n, 30));
            add(court.tried(n, 31));
        }
        add(court.hung(0));
        add(court.hung(1));
    }

    private void add(int answer) {
        seen[size] = answer;
        size++;
    }

    void isStill(String what, ShadowCourt court) {
        Picture now = new Picture(court);
        for (int i = 0; i < size; i++) {
            Due.is(what + ", mark " + i, now.seen[i], seen[i]);
        }
    }
}
