/** Promise 12: shade, and how SHADOWS fall. */
public final class ShadeTest {
    public static void main(String[] args) {
        refuses();
        fallsInEightWays();
        endsAtWalls();
        liesInLayers();
        ofLamps();
        Due.end("ShadeTest");
    }

    private static void refuses() {
        Probe probe = Probe.eastward();
        int[][] spots = {{-1, 0}, {0, -1}, {10, 0}, {0, 10}, {1 << 31, 5}};
        for (int[] spot : spots) {
            Due.is("no such spot", probe.court.shade(spot[0], spot[1]), -1);
        }
        Due.is("a spot", probe.court.shade(9, 9), 0);
    }

    /** Those told must lie in as many shadows as they are told times; no other spot lies in any. */
    private static void shaded(String what, Probe probe, int... spots) {
        int distinct = 0;
        for (int spot = 0; spot < 100; spot++) {
            int times = 0;
            for (int told : spots) {
                times += told == spot ? 1 : 0;
            }
            if (times > 0) {
                distinct++;
                Due.is(what + ", spot " + spot, probe.court.shade(spot % 10, spot / 10), times);
            }
        }
        Due.is(what + ", all spots", probe.court.atOnce(1), distinct);
    }

    private static void fallsInEightWays() {
        int[][] want = {{65, 75}, {66, 77}, {56, 57}, {46, 37}, {45, 35}, {44, 33}, {54, 53}, {64, 73}};
        for (int way = 0; way < 8; way++) {
            Probe probe = new Probe();
            probe.court.judge(1, 5, 5);
            probe.law("a" + way + "(1=1);l2(1=1);c10(1=1)");
            shaded("way " + way, probe, want[way]);
        }
    }

    private static void endsAtWalls() {
        Probe probe = new Probe();
        probe.marketWith(4, "5.#4.", 5, "7.r#.", 6, "5.#4.");
        probe.law("a2(1=1);l9(1=1)");
        probe.court.judge(0, 5, 5);
        shaded("through the river, up to the wall", probe, 56, 57);
        probe.law("a1(1=1);l3(1=1)");
        shaded("aslant between", probe, 66, 77, 88);
        probe.law("a0(1=1);l9(1=1)");
        shaded("a wall at once", probe);
        probe.law("a6(1=1);l9(1=1)");
        shaded("up to the market's end", probe, 54, 53, 52, 51, 50);
        probe.law("a7(1=1);l9(1=1)");
        shaded("up to the market's corner", probe, 64, 73, 82, 91);
    }

    private static void liesInLayers() {
        Probe probe = Probe.eastward();
        probe.court.judge(0, 2, 2);
        probe.court.judge(1, 3, 2);
        shaded("on the other judge, too", probe, 23, 24, 25, 24, 25, 26);
        probe.law("a2+4*j(1=1);l3(1=1)");
        probe.court.judge(1, 6, 2);
        shaded("towards one another", probe, 23, 24, 25, 25, 24, 23);
    }

    private static void ofLamps() {
        Probe probe = new Probe();
        ShadowCourt court = probe.court;
        court.judge(0, 5, 5);
        court.lamp(0, 5, 9);
        shaded("not by day", probe);
        probe.law("n(1=1);c10(1=1)");
        shaded("four spots away", probe, 45, 35);
        court.lamp(0, 1, 5);
        shaded("another way", probe, 56, 57);
        court.lamp(0, 5, 0);
        shaded("five are too many", probe);
        court.lamp(0, 3, 3);
        shaded("aslant", probe, 66, 77);
        court.lamp(0, 4, 3);
        shaded("in none of the ways", probe);
        court.lamp(0, 5, 5);
        shaded("at the judge's spot", probe);
        court.judge(1, 7, 5);
        court.lamp(0, 4, 5);
        shaded("of both judges", probe, 56, 57, 58, 59);
        court.lamp(1, 4, 5);
        shaded("of two lamps at one spot", probe, 56, 57, 58, 59, 56, 57, 58, 59);
        court.lamp(1, -1, 0);
        probe.marketWith(5, "6.#3.");
        shaded("a wall between, and behind", probe);
        court.lamp(0, 5, 7);
        probe.marketWith(3, "5.#4.");
        shaded("up to a wall; aslant of the other judge", probe, 45, 48, 39);
    }
}
