/** Promise 10: tried. */
public final class TriedTest {
    public static void main(String[] args) {
        refuses();
        tells();
        changesNothing();
        Due.end("TriedTest");
    }

    private static void refuses() {
        Probe probe = Probe.eastward();
        ShadowCourt court = probe.court;
        court.judge(0, 2, 2);
        court.felon(4, 2, 3, 5);
        int[] whats = {-1, 6, 9, 10, 13, 15, 19, 20, 29, 31, 32, 40, 100};
        for (int what : whats) {
            Due.is("tried(1, " + what + ")", court.tried(1, what), -1);
        }
        Due.is("tried(0, 0)", court.tried(0, 0), -1);
        Due.is("tried(121, 0)", court.tried(121, 0), -1);
        Due.is("tried(-1, 0)", court.tried(-1, 0), -1);
        Due.is("tried(120, 24)", court.tried(120, 24), 0);
    }

    private static void tells() {
        Probe probe = new Probe();
        ShadowCourt court = probe.court;
        probe.marketWith(2, "4.r5.");
        probe.law("a2(1=1);l3(1=1);v2(1=1);o100-w(1=1);c10(t=1)");
        court.judge(0, 2, 2);
        court.judge(1, 9, 9);
        probe.walk(1, "3w");
        court.felon(0, 3, 3, 2);
        court.felon(1, 4, 3, 3);
        court.felon(2, 0, 9, 7);
        court.felon(3, 0, 9, 0);
        // minute 0: 0 to 23, 1 to 24, where it drowns; minute 1 is cloudy; minute 2: 0 serves
        int[][] want = {
            {0, 2, 2, 3}, {1, 1, 3, 4}, {2, 1, 1, 1}, {3, 0, 1, 1}, {4, 2, 2, 2}, {5, 1, 1, 2},
            {10, 23, 23, 23}, {11, 24, 24, 24}, {12, 90, 90, 90}, {13, 90, 90, 90},
            {20, 1, 1, 0}, {21, 2, 2, 2}, {22, 7, 7, 7}, {23, 0, 0, 0},
            {30, 22, 22, 22}, {31, 98, 97, 96}};
        for (int[] row : want) {
            for (int n = 1; n <= 3; n++) {
                Due.is("tried(" + n + ", " + row[0] + ")", court.tried(n, row[0]), row[n]);
            }
        }
        Due.is("once more all is counted anew", court.tried(3, 1), 4);
    }

    private static void changesNothing() {
        Probe probe = Probe.eastward();
        ShadowCourt court = probe.court;
        court.judge(0, 2, 2);
        probe.walk(0, "5e");
        court.felon(0, 3, 3, 9);
        court.tried(7, 0);
        Due.is("the minute", court.count(0), 0);
        Due.is("X", court.count(7), 1);
        Due.is("the judge", court.count(10), 22);
        Due.is("its walk", court.count(20), 5);
        Due.is("the felon", court.felonIs(0, 0), 33);
        Due.is("what it owes", court.count(4), 9);
    }
}
