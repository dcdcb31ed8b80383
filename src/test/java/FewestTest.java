/** Promise 14: fewest. */
public final class FewestTest {
    public static void main(String[] args) {
        refuses();
        standsStill();
        goesAlong();
        minds();
        isAsManyAsTried();
        Due.end("FewestTest");
    }

    private static void refuses() {
        Probe probe = Probe.eastward();
        ShadowCourt court = probe.court;
        court.judge(0, 2, 2);
        court.felon(0, 3, 3, 5);
        Due.is("not told", court.fewest(1, 1, 1), -1);
        Due.is("no such felon", court.fewest(10, 1, 1), -1);
        Due.is("no such felon", court.fewest(-1, 1, 1), -1);
        Due.is("n 0", court.fewest(0, 0, 0), -1);
        Due.is("n 31", court.fewest(0, 31, 1), -1);
        Due.is("k 0", court.fewest(0, 3, 0), -1);
        Due.is("k above n", court.fewest(0, 3, 4), -1);
        Due.is("n 30, k 30", court.fewest(0, 30, 30), 1);
    }

    private static void standsStill() {
        Probe probe = Probe.eastward();
        ShadowCourt court = probe.court;
        court.judge(0, 2, 2);
        court.felon(0, 3, 2, 0);
        Due.is("it is there", court.fewest(0, 9, 9), 0);
        Due.is("more of them do no harm", court.fewest(0, 9, 1), 0);
        court.felon(0, 3, 5, 5);
        Due.is("three steps in a minute, though v is 2", court.fewest(0, 1, 1), 3);
        court.felon(0, 3, 6, 5);
        Due.is("four are too many in one", court.fewest(0, 1, 1), -2);
        Due.is("in two they are not", court.fewest(0, 2, 1), 4);
        Due.is("but then one minute is over", court.fewest(0, 2, 2), -2);
        court.judge(0, 9, 2);
        Due.is("no shadow", court.fewest(0, 30, 1), -2);
    }

    private static void goesAlong() {
        Probe probe = Probe.eastward();
        ShadowCourt court = probe.court;
        court.judge(0, 2, 2);
        probe.walk(0, "2e");
        court.felon(0, 3, 3, 5);
        Due.is("once", court.fewest(0, 3, 1), 2);
        Due.is("all the time", court.fewest(0, 3, 3), 3);
        probe.walk(0, "6e");
        court.felon(0, 3, 2, 5);
        // behind its first step the judge is at 23, behind its sixth at 28: shadow 29 alone
        Due.is("always in front", court.fewest(0, 6, 6), 6);
        Due.is("waiting for it is over at once", court.fewest(0, 6, 1), 1);
        Due.is("three of six", court.fewest(0, 6, 3), 3);
        probe.law("a2(t>2);l3(t>2)");
        Due.is("by the law of each minute", court.fewest(0, 3, 1), -2);
        Due.is("from minute 3 on", court.fewest(0, 4, 1), 4);
    }

    private static void minds() {
        Probe probe = new Probe();
        ShadowCourt court = probe.court;
        probe.law("a2(1=1);l1(1=1);c10(1=1)");
        probe.marketWith(4, "3#7.", 3, "5.r4.");
        court.judge(0, 2, 3);
        court.judge(1, 8, 3);
        court.felon(0, 2, 5, 9);
        court.felon(1, 3, 3, 9);
        // around the walls: 2,5 to 3,5, then down to 3,3
        Due.is("around walls, others aside, no clouds", court.fewest(0, 1, 1), 3);
        probe.marketWith(4, "5#5.", 3, "5.r4.");
        // 3,3 would be seven steps through the river at 5,3, eleven around it; 9,3 is nine
        Due.is("around the river, too", court.fewest(0, 9, 1), 9);
        probe.law("a2(1=1);l1(1=1);n(1=1)");
        court.lamp(0, 0, 3);
        court.felon(0, 4, 3, 9);
        Due.is("not night, lamps aside", court.fewest(0, 1, 1), 1);
        probe.law("n(1=1)");
        Due.is("lamps alone make none", court.fewest(0, 1, 1), -2);
        probe.marketWith(3, "2.#7.");
        Due.is("no shadow behind a wall", court.fewest(0, 9, 1), -2);
    }

    /** A felon that owes much and is sure to follow serves each minute by as many steps. */
    private static void isAsManyAsTried() {
        Probe probe = Probe.eastward();
        ShadowCourt court = probe.court;
        court.judge(0, 0, 5);
        probe.walk(0, "3e3n2w2s");
        court.felon(0, 3, 5, 999);
        for (int n = 1; n <= 10; n++) {
            Due.is("served in each of " + n, court.tried(n, 0), n);
            Due.yes("by so few steps", court.fewest(0, n, n) <= court.tried(n, 4));
        }
    }
}
