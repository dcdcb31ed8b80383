/** Promise 15: home. */
public final class HomeTest {
    public static void main(String[] args) {
        refuses();
        takesTheLeastRow();
        leadsToTheFelon();
        isTheBestOfAll();
        Due.end("HomeTest");
    }

    private static void refuses() {
        Probe probe = Probe.eastward();
        ShadowCourt court = probe.court;
        court.judge(1, 2, 2);
        Due.is("not told", court.home(0, 1, 10), -1);
        Due.is("no such judge", court.home(2, 1, 10), -1);
        Due.is("no such judge", court.home(-1, 1, 10), -1);
        Due.is("m 0", court.home(1, 0, 10), -1);
        Due.is("m 6", court.home(1, 6, 10), -1);
        Due.is("what -1", court.home(1, 3, -1), -1);
        Due.is("what m", court.home(1, 3, 3), -1);
        Due.is("what 9", court.home(1, 5, 9), -1);
        Due.is("what 11", court.home(1, 5, 11), -1);
        Due.is("the last step", court.home(1, 3, 2), 0);
    }

    private static void takesTheLeastRow() {
        Probe probe = Probe.eastward();
        ShadowCourt court = probe.court;
        court.judge(0, 2, 9);
        court.felon(0, 3, 9, 99);
        probe.walk(0, "2e");
        // n leads off the market, so it is a stay, and it comes first
        Due.is("less is owed", court.home(0, 5, 10), 5);
        for (int what = 0; what < 5; what++) {
            Due.is("step " + what, court.home(0, 5, what), 0);
        }
        Due.is("the walk is there as it was", court.count(20), 2);
        Due.is("so is the judge", court.count(10), 92);
        Due.is("so is X", court.count(7), 1);
    }

    private static void leadsToTheFelon() {
        Probe probe = new Probe();
        ShadowCourt court = probe.court;
        probe.law("a2(1=1);l1(1=1)");
        court.judge(0, 5, 5);
        court.felon(0, 5, 5, 99);
        // v is 0: the judge must stand just west of it
        Due.is("one step", court.home(0, 1, 10), 1);
        Due.is("west", court.home(0, 1, 0), 3);
        Due.is("served in each of three", court.home(0, 3, 10), 3);
        Due.is("west", court.home(0, 3, 0), 3);
        Due.is("stay", court.home(0, 3, 1), 4);
        Due.is("stay", court.home(0, 3, 2), 4);
        court.judge(0, 6, 6);
        Due.is("behind three steps", court.home(0, 3, 10), 1);
        Due.is("south is less than west", court.home(0, 3, 0), 2);
        Due.is("west", court.home(0, 3, 1), 3);
        Due.is("west", court.home(0, 3, 2), 3);
        Due.is("two steps lead nowhere near", court.home(0, 2, 10), 0);
        Due.is("so all rows are alike", court.home(0, 2, 1), 0);
        court.judge(1, 4, 5);
        Due.is("the other one is there already", court.home(0, 3, 10), 3);
        probe.walk(1, "w");
        court.judge(0, 4, 6);
        Due.is("that one goes by its walk behind this one", court.home(0, 2, 10), 1);
    }

    /** Against all ways, each tried as a walk. */
    private static void isTheBestOfAll() {
        for (int seed = 0; seed < 3; seed++) {
            for (int m = 1; m <= 4; m++) {
                compareWithWalks(seed * 777, m);
            }
        }
    }

    private static Probe arena(int seed) {
        Probe probe = new Probe();
        ShadowCourt court = probe.court;
        probe.marketWith(3, "4.#r4.", 4, "2.s7.", 6, "8.2#");
        probe.law("a2+j*4(t%2=0);a1(1=1);l2+j(1=1);v1+s(1=1);ow(1=1);c3(1=1);n(t=2)");
        court.judge(0, 3, 4);
        court.judge(1, 6, 4);
        probe.walk(1, "2w2n");
        court.lamp(0, 3, 6);
        int[][] felons = {{2, 4, 4}, {4, 4, 2}, {5, 5, 9}, {3, 6, 1}};
        for (int f = 0; f < felons.length; f++) {
            court.felon(f, felons[f][0], felons[f][1], felons[f][2]);
        }
        court.seed(seed);
        return probe;
    }

    private static void compareWithWalks(int seed, int m) {
        ShadowCourt court = arena(seed).court;
        int less = court.home(0, m, 10);
        StringBuilder way = new StringBuilder();
        for (int i = 0; i < m; i++) {
            way.append("nesw.".charAt(court.home(0, m, i)));
        }
        int most = -1;
        String best = "";
        int ways = (int) Math.pow(5, m);
        for (int row = 0; row < ways; row++) {
            StringBuilder text = new StringBuilder();
            for (int i = 0, rest = row; i < m; i++, rest /= 5) {
                text.insert(0, "nesw.".charAt(rest % 5));
            }
            Probe probe = arena(seed);
            probe.walk(0, text.toString());
            int served = probe.court.tried(m, 0);
            if (served > most) {
                most = served;
                best = text.toString();
            }
        }
        Due.is("home of " + m, less, most);
        Due.yes("way " + way + " of " + m + ", due is " + best, best.contentEquals(way));
    }
}
