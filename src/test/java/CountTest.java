/** Promise 27: count. */
public final class CountTest {
    public static void main(String[] args) {
        Probe probe = new Probe();
        ShadowCourt court = probe.court;
        probe.marketWith(0, "#sr7.", 9, "9.s");
        probe.law("a2(1=1);l3(1=1);n(t=3)");
        court.judge(1, 4, 4);
        probe.walk(0, "3n");
        probe.walk(1, "2e");
        court.felon(1, 5, 5, 30);
        court.felon(9, 5, 5, 12);
        court.lamp(0, 7, 8);
        court.lamp(2, 8, 8);
        court.minutes(1);
        court.feed(1, 2, 3, 4, 5);
        int[][] want = {{0, 1}, {1, 2}, {2, 2 + 512}, {3, 5}, {4, 42}, {5, 3}, {6, 20}, {7, 39022},
            {8, 0}, {9, -1}, {10, -1}, {11, 45}, {12, -1}, {19, -1}, {20, 3}, {21, 1}, {22, -1},
            {29, -1}, {30, 87}, {31, -1}, {32, 88}, {33, -1}, {34, -1}, {99, -1}, {100, 1},
            {101, 2}, {102, 3}, {103, 0}, {199, 2}, {200, -1}, {-1, -1}, {1 << 31, -1}};
        for (int[] row : want) {
            Due.is("count(" + row[0] + ")", court.count(row[0]), row[1]);
        }
        court.minutes(2);
        Due.is("night in minute 3", court.count(8), 1);
        Due.is("X behind three minutes", court.count(7), nextX(nextX(nextX(1))));
        Due.end("CountTest");
    }

    private static int nextX(int x) {
        return (25173 * x + 13849) % 65536;
    }
}
