import java.util.Arrays;
import java.util.Random;

/** The sentences that name an edge: Terms, WAYS and THE SHADOW, and promises 12 and 13, one test each. */
public final class ShadowEdgesTest {
    /** From spot 55 in ways 0 to 7 up to the market's end. */
    private static final int[][] RAYS = {{65, 75, 85, 95}, {66, 77, 88, 99}, {56, 57, 58, 59}, {46, 37, 28, 19},
        {45, 35, 25, 15, 5}, {44, 33, 22, 11, 0}, {54, 53, 52, 51, 50}, {64, 73, 82, 91}};

    public static void main(String[] args) {
        ways0To7();
        fromBesideItOn();
        noSpotIfLIs0();
        asManyAsThereAre();
        upToTheFirstWall();
        aWallBesideIt();
        notOnBehindAWall();
        overRiverAndStairs();
        overTheOtherJudge();
        ofJudgesThatAreTold();
        atNightAlone();
        aLampHasOneInEachWay();
        inNoneOfTheWays();
        aLampAtTheJudge();
        atMostFourSpotsAway();
        withoutAWallBetween();
        overTheRiverToTheJudge();
        twoSpotsBehindIt();
        lampShadowsUpToTheFirstWall();
        lampShadowsUpToTheEnd();
        ofEachJudge();
        eachLampHasOne();
        aLampThatHangsNoMore();
        noSuchSpot();
        spotsAtTheCorners();
        inHowManyShadows();
        withoutClouds();
        atOnceOfNoSuchWhat();
        atOnceOfNobody();
        atOnceOneOnASpot();
        atOnceWhoOwesNothing();
        atOnceWhoHasDrowned();
        atOnceByVStepsAtMost();
        atOnceNotThroughWalls();
        atOnceAllTen();
        atOnceHandsPlacesOn();
        atOnceHandsOnThroughAllTen();
        atOnceAPlaceHandedOnIsTaken();
        atOnceAsCountedPlainly();
        atOnceSpotsInMore();
        atOnceWithNoClouds();
        Due.end("ShadowEdgesTest");
    }

    /** Those spots lie in as many shadows as they are told times, and no others do in any. */
    private static void shaded(String what, Probe probe, int... spots) {
        for (int told : spots) {
            int times = (int) Arrays.stream(spots).filter(spot -> spot == told).count();
            Due.is(what + ", spot " + told, probe.court.shade(told % 10, told / 10), times);
        }
        int distinct = (int) Arrays.stream(spots).distinct().count();
        Due.is(what + ", all spots", probe.court.atOnce(1), distinct);
    }

    private static int[] behind(int way, int many) {
        return Arrays.copyOf(RAYS[way], many);
    }

    private static Probe ofOneJudge(String law) {
        Probe probe = new Probe();
        probe.court.judge(0, 5, 5);
        probe.law(law);
        return probe;
    }

    /** By night, with no shadows of judges themselves. */
    private static Probe ofALamp(int x, int y) {
        Probe probe = ofOneJudge("n(0=0)");
        probe.court.lamp(0, x, y);
        return probe;
    }

    // "WAYS 0 to 7: 0 y + 1, 1 x and y + 1, 2 x + 1, 3 x + 1 and y - 1, 4 y - 1, .."
    private static void ways0To7() {
        for (int way = 0; way < 8; way++) {
            shaded("way " + way, ofOneJudge("a" + way + "(0=0);l3(0=0)"), behind(way, 3));
        }
    }

    // "l spots .. one behind the other from beside it on"
    private static void fromBesideItOn() {
        Probe probe = ofOneJudge("a2(0=0);l1(0=0)");
        shaded("one spot", probe, 56);
        Due.is("its own", probe.court.shade(5, 5), 0);
    }

    // l "(0 to 9)"
    private static void noSpotIfLIs0() {
        shaded("l 0", ofOneJudge("a2(0=0);l0(0=0)"));
    }

    // "(as many as there are) .. or the market's end"
    private static void asManyAsThereAre() {
        for (int way = 0; way < 8; way++) {
            shaded("way " + way, ofOneJudge("a" + way + "(0=0);l9(0=0)"), RAYS[way]);
        }
        for (int way = 0; way < 8; way++) {
            Probe probe = new Probe();
            probe.court.judge(0, new int[] {4, 9, 9, 9, 4, 0, 0, 0}[way], new int[] {9, 9, 4, 0, 0, 0, 4, 9}[way]);
            probe.law("a" + way + "(0=0);l9(0=0)");
            shaded("at the end, way " + way, probe);
        }
    }

    // "up to the first wall (not counted)"
    private static void upToTheFirstWall() {
        Probe probe = ofOneJudge("a2(0=0);l9(0=0)");
        probe.marketWith(5, "8.#.");
        shaded("a wall at 58", probe, 56, 57);
        probe.marketWith(5, "9.#");
        shaded("a wall at 59", probe, 56, 57, 58);
    }

    // The same, of a wall just beside it.
    private static void aWallBesideIt() {
        for (int way = 0; way < 8; way++) {
            Probe probe = ofOneJudge("a" + way + "(0=0);l9(0=0)");
            int spot = RAYS[way][0];
            probe.marketWith(spot / 10, ".".repeat(spot % 10) + "#" + ".".repeat(9 - spot % 10));
            shaded("way " + way, probe);
        }
    }

    // "up to the first wall": of two
    private static void notOnBehindAWall() {
        Probe probe = ofOneJudge("a6(0=0);l9(0=0)");
        probe.marketWith(5, ".#.#6.");
        shaded("walls at 51 and 53", probe, 54);
    }

    // The first wall alone ends it: river and stairs do not.
    private static void overRiverAndStairs() {
        Probe probe = ofOneJudge("a2(0=0);l9(0=0)");
        probe.marketWith(5, "6.rsrs");
        shaded("river and stairs", probe, 56, 57, 58, 59);
    }

    // The same, of the other JUDGE.
    private static void overTheOtherJudge() {
        Probe probe = ofOneJudge("a2(j=0);a6(0=0);l2(0=0)");
        probe.court.judge(1, 6, 5);
        shaded("towards one another", probe, 56, 57, 55, 54);
    }

    // "JUDGES 0, 1: told or not"
    private static void ofJudgesThatAreTold() {
        Probe probe = new Probe();
        probe.law("a2(0=0);l9(0=0)");
        shaded("nobody", probe);
        probe.court.judge(1, 7, 0);
        shaded("judge 1 alone", probe, 8, 9);
    }

    // "(at night alone)"
    private static void atNightAlone() {
        Probe probe = ofOneJudge("n(t=1)");
        probe.court.lamp(0, 3, 5);
        shaded("by day", probe);
        probe.court.minutes(1);
        shaded("at night", probe, 56, 57);
        probe.court.minutes(1);
        shaded("by day again", probe);
    }

    // "A LAMP has one, too, of each JUDGE that is in one of the 8 ways from it"
    private static void aLampHasOneInEachWay() {
        for (int way = 0; way < 8; way++) {
            int lamp = RAYS[(way + 4) % 8][1];
            shaded("way " + way, ofALamp(lamp % 10, lamp / 10), behind(way, 2));
        }
    }

    // "in one of the 8 ways from it": beside each of them
    private static void inNoneOfTheWays() {
        int[] lamps = {34, 36, 43, 47, 63, 67, 74, 76, 24, 38};
        for (int lamp : lamps) {
            shaded("lamp at " + lamp, ofALamp(lamp % 10, lamp / 10));
        }
    }

    // The same: from its own spot it is in none of them.
    private static void aLampAtTheJudge() {
        shaded("at 55", ofALamp(5, 5));
    }

    // "at most 4 spots away"
    private static void atMostFourSpotsAway() {
        shaded("one away", ofALamp(4, 5), 56, 57);
        shaded("four away", ofALamp(1, 5), 56, 57);
        shaded("five away", ofALamp(0, 5));
        shaded("four away aslant", ofALamp(1, 1), 66, 77);
        shaded("five away aslant", ofALamp(0, 0));
    }

    // "without a wall between"
    private static void withoutAWallBetween() {
        for (int x = 0; x < 10; x++) {
            if (x != 2 && x != 5) {
                Probe probe = ofALamp(2, 5);
                probe.marketWith(5, ".".repeat(x) + "#" + ".".repeat(9 - x));
                int[] want = x == 3 || x == 4 || x == 6 ? new int[0] : x == 7 ? new int[] {56} : new int[] {56, 57};
                shaded("a wall at " + (50 + x), probe, want);
            }
        }
    }

    // "without a wall between": the river is none
    private static void overTheRiverToTheJudge() {
        Probe probe = ofALamp(2, 5);
        probe.marketWith(5, "3.rs5.");
        shaded("river and stairs between", probe, 56, 57);
    }

    // "2 spots behind the JUDGE in that way", however long l is
    private static void twoSpotsBehindIt() {
        Probe probe = ofOneJudge("n(0=0);a0(0=0);l1(0=0)");
        probe.court.lamp(0, 4, 5);
        shaded("l 1", probe, 65, 56, 57);
        probe.law("n(0=0);a0(0=0);l9(0=0)");
        shaded("l 9", probe, 65, 75, 85, 95, 56, 57);
    }

    // "likewise": up to the first wall (not counted)
    private static void lampShadowsUpToTheFirstWall() {
        Probe probe = ofALamp(4, 5);
        probe.marketWith(5, "6.#3.");
        shaded("a wall at once", probe);
        probe.marketWith(5, "7.#2.");
        shaded("a wall then", probe, 56);
        probe.marketWith(5, "8.#.");
        shaded("a wall behind", probe, 56, 57);
    }

    // "likewise": up to the market's end
    private static void lampShadowsUpToTheEnd() {
        Probe probe = ofALamp(6, 5);
        probe.court.judge(0, 8, 5);
        shaded("one spot", probe, 59);
        probe.court.judge(0, 9, 5);
        shaded("no spot", probe);
    }

    // "of each JUDGE": of two in one way, too
    private static void ofEachJudge() {
        Probe probe = ofALamp(4, 5);
        probe.court.judge(1, 6, 5);
        shaded("both in a way", probe, 56, 57, 57, 58);
        probe.court.judge(1, 4, 3);
        shaded("in two ways", probe, 56, 57, 24, 14);
    }

    // "LAMPS 0 to 3"
    private static void eachLampHasOne() {
        for (int i = 0; i < 4; i++) {
            Probe probe = ofOneJudge("n(0=0)");
            probe.court.lamp(i, 5, 3);
            shaded("lamp " + i, probe, 65, 75);
        }
        Probe probe = ofOneJudge("n(0=0)");
        for (int i = 0; i < 4; i++) {
            probe.court.lamp(i, 5, 3);
        }
        shaded("all at one spot", probe, 65, 75, 65, 75, 65, 75, 65, 75);
    }

    // promise 8: "or (x NONE) no more"
    private static void aLampThatHangsNoMore() {
        Probe probe = ofALamp(4, 5);
        probe.court.lamp(0, -1, 0);
        shaded("no lamp", probe);
    }

    // promise 12: "NONE: no such spot"
    private static void noSuchSpot() {
        ShadowCourt court = new ShadowCourt();
        int[][] spots = {{-1, 0}, {10, 0}, {0, -1}, {0, 10}, {-1, -1}, {10, 10}, {-1, 1}, {10, 5},
            {Integer.MIN_VALUE, 0}, {Integer.MAX_VALUE, 0}, {0, Integer.MIN_VALUE}, {0, Integer.MAX_VALUE}};
        for (int[] spot : spots) {
            Due.is("x " + spot[0] + ", y " + spot[1], court.shade(spot[0], spot[1]), -1);
        }
    }

    // The first and the last spot there are.
    private static void spotsAtTheCorners() {
        Probe probe = ofOneJudge("a5(j=0);a1(0=0);l5(0=0)");
        probe.court.judge(1, 6, 6);
        Due.is("spot 0", probe.court.shade(0, 0), 1);
        Due.is("spot 99", probe.court.shade(9, 9), 1);
        Due.is("spot 90", probe.court.shade(0, 9), 0);
        Due.is("spot 9", probe.court.shade(9, 0), 0);
        probe.marketWith(0, "#9.");
        Due.is("a wall there", probe.court.shade(0, 0), 0);
    }

    // promise 12: "In how many SHADOWS a spot lies now"
    private static void inHowManyShadows() {
        Probe probe = ofOneJudge("a2(0=0);l9(0=0);n(0=0)");
        Due.is("one", probe.court.shade(7, 5), 1);
        probe.court.judge(1, 6, 5);
        Due.is("two", probe.court.shade(7, 5), 2);
        for (int i = 0; i < 4; i++) {
            probe.court.lamp(i, 4, 5);
        }
        Due.is("ten", probe.court.shade(7, 5), 10);
    }

    // promise 12: "(without clouds)"
    private static void withoutClouds() {
        shaded("all cloudy", ofOneJudge("a2(0=0);l2(0=0);c10(0=0)"), 56, 57);
    }

    // promise 13: "NONE: no such what"
    private static void atOnceOfNoSuchWhat() {
        ShadowCourt court = new ShadowCourt();
        Due.is("what -1", court.atOnce(-1), -1);
        Due.is("what 0", court.atOnce(0), 0);
        Due.is("what 2", court.atOnce(2), 0);
        Due.is("what 3", court.atOnce(3), -1);
        Due.is("least what", court.atOnce(Integer.MIN_VALUE), -1);
        Due.is("greatest what", court.atOnce(Integer.MAX_VALUE), -1);
    }

    // "how many FELONS": none is told, or none is near
    private static void atOnceOfNobody() {
        Probe probe = ofOneJudge("a2(0=0);l9(0=0);v3(0=0)");
        Due.is("none is told", probe.court.atOnce(0), 0);
        probe.court.felon(0, 0, 0, 9);
        Due.is("none is near", probe.court.atOnce(0), 0);
        probe.court.felon(0, 5, 5, 9);
        probe.law("a2(0=0);v3(0=0)");
        Due.is("no shadow", probe.court.atOnce(0), 0);
    }

    // "could be in THE SHADOWS at once": one on a spot
    private static void atOnceOneOnASpot() {
        Probe probe = ofOneJudge("a2(0=0);l2(0=0);v3(0=0)");
        for (int f = 0; f < 3; f++) {
            probe.court.felon(f, 6, 5, 9);
        }
        Due.is("three felons, two spots", probe.court.atOnce(0), 2);
    }

    // "FELONS that OWE something"
    private static void atOnceWhoOwesNothing() {
        Probe probe = ofOneJudge("a2(0=0);l2(0=0);v3(0=0)");
        probe.court.felon(0, 6, 5, 0);
        Due.is("it owes nothing", probe.court.atOnce(0), 0);
        probe.court.felon(0, 6, 5, 1);
        Due.is("it owes 1", probe.court.atOnce(0), 1);
    }

    // "and have not drowned"
    private static void atOnceWhoHasDrowned() {
        Probe probe = ofOneJudge("a2(0=0);l1(0=0);v3(0=0)");
        probe.marketWith(5, "6.r3.");
        probe.court.felon(0, 6, 6, 9);
        Due.is("it could drown there", probe.court.atOnce(0), 1);
        probe.court.minutes(1);
        Due.is("it has drowned", probe.court.felonIs(0, 3), 1);
        Due.is("it does not count", probe.court.atOnce(0), 0);
    }

    // "each by v STEPS at most from where it is"
    private static void atOnceByVStepsAtMost() {
        for (int v = 0; v < 4; v++) {
            Probe probe = ofOneJudge("a2(0=0);l1(0=0);v" + v + "(0=0)");
            probe.court.felon(0, 6, 5 + v, 9);
            Due.is(v + " steps, v " + v, probe.court.atOnce(0), 1);
            probe.court.felon(0, 7, 5 + v, 9);
            Due.is((v + 1) + " steps, v " + v, probe.court.atOnce(0), 0);
        }
    }

    // STEPS: 4 ways, not through walls; through the river they can be
    private static void atOnceNotThroughWalls() {
        Probe probe = ofOneJudge("a2(0=0);l1(0=0);v3(0=0)");
        probe.court.felon(0, 6, 7, 9);
        probe.marketWith(6, "0#");
        Due.is("walls", probe.court.atOnce(0), 0);
        probe.marketWith(6, "0r");
        Due.is("the river", probe.court.atOnce(0), 1);
        probe.marketWith(6, "6.#3.");
        Due.is("around a wall it is four", probe.court.atOnce(0), 0);
        probe.court.felon(0, 7, 6, 9);
        Due.is("not aslant, but two steps", probe.court.atOnce(0), 1);
    }

    // "FELONS 0 to 9": all of them
    private static void atOnceAllTen() {
        Probe probe = new Probe();
        probe.law("a2(0=0);l9(0=0);v1(0=0)");
        probe.court.judge(0, 0, 4);
        probe.court.judge(1, 0, 6);
        for (int f = 0; f < 10; f++) {
            probe.court.felon(f, f, 5, 9);
        }
        Due.is("at 0, 5 it is two steps", probe.court.atOnce(0), 9);
        probe.court.felon(0, 9, 5, 9);
        Due.is("all ten", probe.court.atOnce(0), 10);
        probe.law("a2(0=0);l9(0=0);v1(f<9)");
        Due.is("without the last", probe.court.atOnce(0), 9);
    }

    // "could be": who has a spot must perhaps have another one, and who has that one, too
    private static void atOnceHandsPlacesOn() {
        for (int last = 1; last < 10; last++) {
            Probe probe = new Probe();
            probe.court.judge(0, 9, 0);
            probe.law("a0(0=0);l9(0=0);v1(f<9);v0(0=0)");
            // spots 19 to 99: felon f can be at its own and the next one, felon 9 at its own alone
            for (int f = 0; f < last; f++) {
                probe.court.felon(f, 9, 1 + f, 9);
            }
            probe.court.felon(9, 9, 1, 9);
            Due.is(last + " and one more", probe.court.atOnce(0), Math.min(last + 1, 9));
        }
    }

    // The same, through all of the FELONS 0 to 9.
    private static void atOnceHandsOnThroughAllTen() {
        Probe probe = new Probe();
        probe.court.judge(0, 9, 0);
        probe.court.judge(1, 7, 9);
        probe.law("a0(j=0);l9(j=0);a2(0=0);l1(0=0);v1(f<9);v0(0=0)");
        // spots 19 to 99, and 98 beside the last: each felon can go on by one
        for (int f = 0; f < 9; f++) {
            probe.court.felon(f, 9, 1 + f, 9);
        }
        probe.court.felon(9, 9, 1, 9);
        Due.is("all ten", probe.court.atOnce(0), 10);
        probe.court.judge(1, 0, 0);
        Due.is("without 98", probe.court.atOnce(0), 9);
    }

    // The same: who has gone on for another one leaves that one its spot.
    private static void atOnceAPlaceHandedOnIsTaken() {
        Probe probe = ofOneJudge("a2(0=0);l3(0=0);v3(f=0);v0(0=0)");
        for (int f = 0; f < 3; f++) {
            probe.court.felon(f, 6, 5, 9);
        }
        Due.is("felons 1 and 2 can be there alone", probe.court.atOnce(0), 2);
    }

    /** Against all ways to put felons on spots; one court, asked for many arrangements. */
    private static void atOnceAsCountedPlainly() {
        Random random = new Random(99);
        for (int run = 0; run < 12; run++) {
            int[] reach = {1 + run % 2, run % 4};
            Probe probe = ofOneJudge("a2(0=0);l4(0=0);v" + reach[0] + "(f%2=0);v" + reach[1] + "(0=0)");
            probe.court.judge(1, 4 + run % 3, 4);
            boolean[] shaded = new boolean[100];
            for (int spot = 45; spot < 60; spot++) {
                shaded[spot] = probe.court.shade(spot % 10, spot / 10) > 0;
            }
            for (int turn = 0; turn < 30; turn++) {
                boolean[][] can = new boolean[6][100];
                for (int f = 0; f < 6; f++) {
                    int spot = 10 * (3 + random.nextInt(5)) + 4 + random.nextInt(6);
                    int owed = random.nextInt(4);
                    probe.court.felon(f, spot % 10, spot / 10, owed);
                    for (int to = 0; to < 100 && owed > 0; to++) {
                        int steps = Math.abs(spot % 10 - to % 10) + Math.abs(spot / 10 - to / 10);
                        can[f][to] = shaded[to] && steps <= reach[f % 2];
                    }
                }
                Due.is("run " + run + ", turn " + turn, probe.court.atOnce(0), countedPlainly(can, 0, shaded));
            }
        }
    }

    private static int countedPlainly(boolean[][] can, int f, boolean[] isFree) {
        if (f == can.length) {
            return 0;
        }
        int best = countedPlainly(can, f + 1, isFree);
        for (int spot = 0; spot < isFree.length; spot++) {
            if (can[f][spot] && isFree[spot]) {
                boolean[] left = isFree.clone();
                left[spot] = false;
                best = Math.max(best, 1 + countedPlainly(can, f + 1, left));
            }
        }
        return best;
    }

    // "spots in SHADOW; spots in more than one"
    private static void atOnceSpotsInMore() {
        Probe probe = ofOneJudge("a2(0=0);l3(0=0)");
        Due.is("in one", probe.court.atOnce(2), 0);
        probe.court.judge(1, 8, 5);
        Due.is("spots", probe.court.atOnce(1), 4);
        Due.is("none in two", probe.court.atOnce(2), 0);
        probe.court.judge(1, 7, 5);
        Due.is("spots", probe.court.atOnce(1), 4);
        Due.is("one in two", probe.court.atOnce(2), 1);
        probe.court.judge(1, 6, 5);
        Due.is("spots", probe.court.atOnce(1), 4);
        Due.is("two in two", probe.court.atOnce(2), 2);
    }

    // "with no clouds"
    private static void atOnceWithNoClouds() {
        Probe probe = ofOneJudge("a2(0=0);l3(0=0);v3(0=0);c10(0=0)");
        probe.court.felon(0, 6, 5, 9);
        Due.is("felons", probe.court.atOnce(0), 1);
        Due.is("spots", probe.court.atOnce(1), 3);
    }
}
