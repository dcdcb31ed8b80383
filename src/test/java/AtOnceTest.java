/** Promise 13: atOnce. */
public final class AtOnceTest {
    public static void main(String[] args) {
        refuses();
        countsSpots();
        countsFelons();
        handsPlacesOn();
        mindsTheFirstSpot();
        Due.end("AtOnceTest");
    }

    private static void refuses() {
        Probe probe = Probe.eastward();
        Due.is("atOnce(-1)", probe.court.atOnce(-1), -1);
        Due.is("atOnce(3)", probe.court.atOnce(3), -1);
        Due.is("no felon", probe.court.atOnce(0), 0);
        Due.is("no spot", probe.court.atOnce(1), 0);
        Due.is("no spot", probe.court.atOnce(2), 0);
    }

    private static void countsSpots() {
        Probe probe = Probe.eastward();
        ShadowCourt court = probe.court;
        court.judge(0, 2, 2);
        Due.is("of one judge", court.atOnce(1), 3);
        Due.is("in more than one", court.atOnce(2), 0);
        court.judge(1, 1, 2);
        Due.is("of both", court.atOnce(1), 4);
        Due.is("in more than one", court.atOnce(2), 2);
        probe.law("n(1=1);a2(1=1);l3(1=1);c10(1=1)");
        court.lamp(0, 0, 2);
        // two behind each of them: 23 and 24 lie in three or more, 22 in two, 25 in one
        Due.is("with a lamp at night", court.atOnce(1), 4);
        Due.is("in more than one", court.atOnce(2), 3);
        probe.law("a2(1=1);l3(1=1)");
        Due.is("the lamp by day", court.atOnce(2), 2);
    }

    private static void countsFelons() {
        Probe probe = new Probe();
        ShadowCourt court = probe.court;
        probe.law("a2(1=1);l3(1=1);v2(f<9);c10(1=1)");
        court.judge(0, 2, 2);
        for (int f = 0; f < 5; f++) {
            court.felon(f, 4, 2, 5);
        }
        Due.is("three spots", court.atOnce(0), 3);
        court.felon(0, 4, 2, 0);
        court.felon(1, 9, 9, 5);
        Due.is("one owes nothing, one is far off", court.atOnce(0), 3);
        court.felon(2, 4, 5, 5);
        Due.is("three steps are too many", court.atOnce(0), 2);
        court.felon(9, 4, 3, 5);
        Due.is("no step for felon 9", court.atOnce(0), 2);
        court.felon(9, 3, 2, 5);
        Due.is("but it is there already", court.atOnce(0), 3);
        probe.law("a2(1=1);l1(1=1);v3(1=1)");
        Due.is("one spot", court.atOnce(0), 1);
        probe.marketWith(2, "2.#7.");
        Due.is("a wall makes it impossible", court.atOnce(0), 0);
        probe.marketWith(2, "3.r6.");
        court.judge(0, 2, 2);
        court.felon(3, 3, 3, 5);
        Due.is("in the river, too", court.atOnce(0), 1);
        court.minutes(1);
        Due.is("felon 3 has drowned there", court.felonIs(3, 3), 1);
        Due.is("felon 4 could still go there", court.atOnce(0), 1);
        court.felon(4, 4, 2, 0);
        Due.is("who has drowned does not count", court.atOnce(0), 0);
    }

    private static void mindsTheFirstSpot() {
        Probe probe = new Probe();
        probe.law("a6(1=1);l1(1=1);v1(1=1)");
        probe.court.judge(0, 1, 0);
        probe.court.felon(0, 0, 0, 5);
        Due.is("in spot 0", probe.court.atOnce(0), 1);
        Due.is("and once more", probe.court.atOnce(0), 1);
    }

    private static void handsPlacesOn() {
        Probe probe = new Probe();
        ShadowCourt court = probe.court;
        probe.law("a2(1=1);l4(1=1);v1(1=1)");
        court.judge(0, 2, 2);
        // 23 to 26 in a row: each new felon can only be where the one ahead may be asked to leave
        court.felon(0, 4, 2, 5);
        court.felon(1, 4, 2, 5);
        court.felon(2, 4, 2, 5);
        Due.is("beside one another", court.atOnce(0), 3);
        court.felon(3, 3, 2, 5);
        Due.is("all spots at 22 to 25 only", court.atOnce(0), 3);
        court.felon(3, 6, 2, 5);
        Due.is("and 26", court.atOnce(0), 4);
        court.felon(0, 3, 2, 5);
        court.felon(1, 4, 2, 5);
        court.felon(2, 5, 2, 5);
        court.felon(3, 3, 3, 5);
        Due.is("three of them go on by one", court.atOnce(0), 4);
        court.felon(4, 6, 1, 5);
        Due.is("no spot is left", court.atOnce(0), 4);
    }
}
