/** The sentences that name an edge: promises 5, 7, 8, 11 and 27 (judge, felon, lamp, felonIs, count), one test each. */
public final class PlacesEdgesTest {
    private static final int LEAST = Integer.MIN_VALUE;
    private static final int GREATEST = Integer.MAX_VALUE;
    private static final int[][] NO_SPOTS = {{-1, 5}, {10, 5}, {5, -1}, {5, 10}, {-1, -1}, {10, 10}, {0, 10}, {-1, 9},
        {LEAST, 5}, {5, LEAST}, {GREATEST, 5}, {5, GREATEST}, {55, 0}};
    private static final int[][] CORNERS = {{0, 0}, {9, 0}, {0, 9}, {9, 9}};

    public static void main(String[] args) {
        noSuchJudge();
        judgeAtNoSuchSpot();
        judgeAtTheCorners();
        judgeOnAWallOrInTheRiver();
        judgeWhereTheOtherOneIs();
        judgeWhereItIsItself();
        judgeRefusedStays();
        itsWalkStays();
        noSuchFelon();
        felonAtNoSuchSpot();
        felonAtTheCorners();
        felonOnAWallOrInTheRiver();
        felonOwesNoSuchNumber();
        felonInPlaceOfTheOneBefore();
        felonRefusedStays();
        noSuchLamp();
        lampAtNoSuchSpot();
        lampAtTheCorners();
        lampOnAWallOrInTheRiver();
        lampNoMore();
        felonIsOfNoSuchFelon();
        felonIsOfNoSuchWhat();
        felonIsAtFirst();
        countOfNoSuchWhat();
        countOfWhoIsNotTold();
        countOfAll();
        countOfTheMinuteAtLast();
        countOfSpots();
        Due.end("PlacesEdgesTest");
    }

    /** A wall at 0, 0, stairs at 1, 0, the river at 2, 0. */
    private static ShadowCourt wallStairsRiver() {
        Probe probe = new Probe();
        probe.marketWith(0, "#sr7.");
        return probe.court;
    }

    // "JUDGES 0, 1", "false: no such ones"
    private static void noSuchJudge() {
        ShadowCourt court = new ShadowCourt();
        int[] wrong = {-1, 2, LEAST, GREATEST};
        for (int j : wrong) {
            Due.no("judge " + j, court.judge(j, 5, 5));
        }
        Due.is("none is told", court.count(1), 0);
        Due.yes("judge 0", court.judge(0, 5, 5));
        Due.yes("judge 1", court.judge(1, 6, 5));
        Due.is("both are told", court.count(1), 3);
    }

    // promise 5: "false: no such ones": of spots
    private static void judgeAtNoSuchSpot() {
        ShadowCourt court = new ShadowCourt();
        for (int[] spot : NO_SPOTS) {
            Due.no("at " + spot[0] + ", " + spot[1], court.judge(0, spot[0], spot[1]));
        }
        Due.is("none is told", court.count(1), 0);
    }

    private static void judgeAtTheCorners() {
        for (int[] spot : CORNERS) {
            ShadowCourt court = new ShadowCourt();
            Due.yes("at " + spot[0] + ", " + spot[1], court.judge(1, spot[0], spot[1]));
            Due.is("its spot", court.count(11), 10 * spot[1] + spot[0]);
        }
    }

    // "false: .. a wall, the river"
    private static void judgeOnAWallOrInTheRiver() {
        ShadowCourt court = wallStairsRiver();
        Due.no("a wall", court.judge(0, 0, 0));
        Due.no("the river", court.judge(0, 2, 0));
        Due.is("not told", court.count(1), 0);
        Due.yes("stairs", court.judge(0, 1, 0));
    }

    // "false: .. the other JUDGE is there"
    private static void judgeWhereTheOtherOneIs() {
        ShadowCourt court = new ShadowCourt();
        court.judge(0, 5, 5);
        Due.no("judge 1 at judge 0", court.judge(1, 5, 5));
        court.judge(1, 0, 0);
        Due.no("judge 0 at judge 1", court.judge(0, 0, 0));
        Due.no("judge 1 at judge 0", court.judge(1, 5, 5));
    }

    // The other JUDGE alone is in its way.
    private static void judgeWhereItIsItself() {
        ShadowCourt court = new ShadowCourt();
        court.judge(0, 5, 5);
        Due.yes("where it is", court.judge(0, 5, 5));
        court.judge(0, 6, 6);
        Due.yes("where the other one was", court.judge(1, 5, 5));
        court.felon(0, 3, 3, 5);
        court.lamp(0, 3, 3);
        Due.yes("where a felon and a lamp are", court.judge(0, 3, 3));
    }

    // "A call that is refused (NONE, false) changes nothing"
    private static void judgeRefusedStays() {
        ShadowCourt court = wallStairsRiver();
        court.judge(0, 5, 5);
        Due.no("a wall", court.judge(0, 0, 0));
        Due.is("where it was", court.count(10), 55);
        court.judge(1, 6, 6);
        for (int j = 0; j < 2; j++) {
            Due.no("a wall for " + j, court.judge(j, 0, 0));
            Due.no("the river for " + j, court.judge(j, 2, 0));
            for (int[] spot : NO_SPOTS) {
                Due.no(j + " at " + spot[0] + ", " + spot[1], court.judge(j, spot[0], spot[1]));
            }
        }
        Due.is("0 is where it was", court.count(10), 55);
        Due.is("1 is where it was", court.count(11), 66);
    }

    // "(its WALK stays, from where it is on)"
    private static void itsWalkStays() {
        Probe probe = new Probe();
        probe.walk(0, "2n2e");
        Due.yes("told", probe.court.judge(0, 0, 0));
        Due.is("all its steps", probe.court.count(20), 4);
        probe.court.minutes(1);
        Due.yes("elsewhere", probe.court.judge(0, 5, 5));
        Due.is("those left", probe.court.count(20), 3);
        Due.is("it goes on", probe.court.tried(3, 30), 67);
    }

    // "FELONS 0 to 9", "false: no such ones"
    private static void noSuchFelon() {
        ShadowCourt court = new ShadowCourt();
        int[] wrong = {-1, 10, LEAST, GREATEST};
        for (int f : wrong) {
            Due.no("felon " + f, court.felon(f, 5, 5, 5));
        }
        Due.is("none is told", court.count(2), 0);
        for (int f = 0; f < 10; f++) {
            Due.yes("felon " + f, court.felon(f, 5, 5, 5));
        }
        Due.is("all are told", court.count(2), 1023);
    }

    // promise 7: "false: no such ones": of spots
    private static void felonAtNoSuchSpot() {
        ShadowCourt court = new ShadowCourt();
        for (int[] spot : NO_SPOTS) {
            Due.no("at " + spot[0] + ", " + spot[1], court.felon(0, spot[0], spot[1], 5));
        }
        Due.is("none is told", court.count(2), 0);
    }

    private static void felonAtTheCorners() {
        for (int[] spot : CORNERS) {
            ShadowCourt court = new ShadowCourt();
            Due.yes("at " + spot[0] + ", " + spot[1], court.felon(9, spot[0], spot[1], 5));
            Due.is("its spot", court.felonIs(9, 0), 10 * spot[1] + spot[0]);
        }
    }

    // "false: .. a wall, the river"
    private static void felonOnAWallOrInTheRiver() {
        ShadowCourt court = wallStairsRiver();
        Due.no("a wall", court.felon(0, 0, 0, 5));
        Due.no("the river", court.felon(0, 2, 0, 5));
        Due.is("not told", court.count(2), 0);
        Due.yes("stairs", court.felon(0, 1, 0, 5));
        court.judge(0, 5, 5);
        Due.yes("a judge's spot", court.felon(1, 5, 5, 5));
        Due.yes("another felon's spot", court.felon(2, 5, 5, 5));
    }

    // "OWED (0 to 999 MINUTES)"
    private static void felonOwesNoSuchNumber() {
        ShadowCourt court = new ShadowCourt();
        int[] wrong = {-1, 1000, LEAST, GREATEST};
        for (int owed : wrong) {
            Due.no("owed " + owed, court.felon(0, 5, 5, owed));
        }
        Due.is("not told", court.count(2), 0);
        Due.yes("owed 0", court.felon(0, 5, 5, 0));
        Due.is("it is told", court.felonIs(0, 1), 0);
        Due.yes("owed 999", court.felon(0, 5, 5, 999));
        Due.is("it owes", court.felonIs(0, 1), 999);
    }

    // "A FELON (in place of the one before; AWAY 0, not drowned)"
    private static void felonInPlaceOfTheOneBefore() {
        Probe probe = new Probe();
        probe.marketWith(5, "6.r3.");
        probe.law("a2(t=1);l1(t=1);v3(0=0)");
        probe.court.judge(0, 5, 5);
        probe.court.felon(9, 6, 6, 9);
        probe.court.minutes(2);
        Due.is("away", probe.court.felonIs(9, 2), 1);
        Due.is("drowned", probe.court.felonIs(9, 3), 1);
        Due.yes("in its place", probe.court.felon(9, 1, 1, 4));
        int[] want = {11, 4, 0, 0};
        for (int what = 0; what < 4; what++) {
            Due.is("felonIs(9, " + what + ")", probe.court.felonIs(9, what), want[what]);
        }
    }

    // "A call that is refused (NONE, false) changes nothing"
    private static void felonRefusedStays() {
        ShadowCourt court = wallStairsRiver();
        court.felon(0, 5, 5, 9);
        court.minutes(3);
        Due.no("a wall", court.felon(0, 0, 0, 1));
        Due.no("owed 1000", court.felon(0, 1, 1, 1000));
        int[] want = {55, 9, 3, 0};
        for (int what = 0; what < 4; what++) {
            Due.is("felonIs(0, " + what + ")", court.felonIs(0, what), want[what]);
        }
    }

    // "LAMPS 0 to 3", "false: no such ones"
    private static void noSuchLamp() {
        ShadowCourt court = new ShadowCourt();
        int[] wrong = {-1, 4, LEAST, GREATEST};
        for (int i : wrong) {
            Due.no("lamp " + i, court.lamp(i, 5, 5));
            Due.no("lamp " + i + " no more", court.lamp(i, -1, 5));
        }
        Due.is("none is told", court.count(3), 0);
        for (int i = 0; i < 4; i++) {
            Due.yes("lamp " + i, court.lamp(i, 5, i));
            Due.is("its spot", court.count(30 + i), 10 * i + 5);
        }
        Due.is("all are told", court.count(3), 15);
    }

    // promise 8: "false: no such ones": of spots (but for x NONE)
    private static void lampAtNoSuchSpot() {
        ShadowCourt court = new ShadowCourt();
        for (int[] spot : NO_SPOTS) {
            court.lamp(0, 5, 5);
            boolean isNone = spot[0] == -1;
            Due.is("at " + spot[0] + ", " + spot[1], court.lamp(0, spot[0], spot[1]) ? 1 : 0, isNone ? 1 : 0);
            Due.is("where it was", court.count(30), isNone ? -1 : 55);
        }
        Due.no("x -2", court.lamp(0, -2, 5));
    }

    private static void lampAtTheCorners() {
        for (int[] spot : CORNERS) {
            ShadowCourt court = new ShadowCourt();
            Due.yes("at " + spot[0] + ", " + spot[1], court.lamp(3, spot[0], spot[1]));
            Due.is("its spot", court.count(33), 10 * spot[1] + spot[0]);
        }
    }

    // "A LAMP hangs at a spot (no wall, no river)"
    private static void lampOnAWallOrInTheRiver() {
        ShadowCourt court = wallStairsRiver();
        Due.no("a wall", court.lamp(0, 0, 0));
        Due.no("the river", court.lamp(0, 2, 0));
        Due.is("not told", court.count(3), 0);
        Due.yes("stairs", court.lamp(0, 1, 0));
        Due.no("a wall", court.lamp(0, 0, 0));
        Due.is("where it was", court.count(30), 1);
    }

    // "or (x NONE) no more": whatever y, told or not
    private static void lampNoMore() {
        int[] ys = {0, 9, -1, 10, LEAST, GREATEST};
        for (int y : ys) {
            ShadowCourt court = new ShadowCourt();
            Due.yes("which was not told", court.lamp(2, -1, y));
            court.lamp(2, 5, 5);
            court.lamp(1, 5, 5);
            Due.yes("y " + y, court.lamp(2, -1, y));
            Due.is("told", court.count(3), 2);
            Due.is("its spot", court.count(32), -1);
        }
    }

    // promise 11: "Of a told FELON .. NONE for others"
    private static void felonIsOfNoSuchFelon() {
        ShadowCourt court = new ShadowCourt();
        court.felon(9, 5, 5, 5);
        int[] wrong = {-1, 0, 8, 10, LEAST, GREATEST};
        for (int f : wrong) {
            for (int what = 0; what < 6; what++) {
                Due.is("felonIs(" + f + ", " + what + ")", court.felonIs(f, what), -1);
            }
        }
    }

    // promise 11: "NONE for others": of what
    private static void felonIsOfNoSuchWhat() {
        ShadowCourt court = new ShadowCourt();
        court.felon(0, 5, 5, 5);
        int[] wrong = {-1, 6, LEAST, GREATEST};
        for (int what : wrong) {
            Due.is("felonIs(0, " + what + ")", court.felonIs(0, what), -1);
        }
    }

    // "OWED (0 to 999 MINUTES), AWAY (.. 0 at first), drowned or not"
    private static void felonIsAtFirst() {
        ShadowCourt court = new ShadowCourt();
        court.felon(0, 9, 9, 999);
        int[] want = {99, 999, 0, 0, 0, 0};
        for (int what = 0; what < 6; what++) {
            Due.is("felonIs(0, " + what + ")", court.felonIs(0, what), want[what]);
        }
    }

    // promise 27: "NONE for others"
    private static void countOfNoSuchWhat() {
        Probe probe = new Probe();
        probe.court.judge(0, 1, 1);
        probe.court.judge(1, 2, 1);
        for (int i = 0; i < 4; i++) {
            probe.court.lamp(i, i, 5);
        }
        int[] wrong = {-1, 9, 12, 13, 19, 22, 23, 29, 34, 35, 40, 99, 200, 201, LEAST, GREATEST};
        for (int what : wrong) {
            Due.is("count(" + what + ")", probe.court.count(what), -1);
        }
        int[] right = {0, 8, 10, 11, 20, 21, 30, 33, 100, 199};
        int[] want = {0, 0, 11, 12, 0, 0, 50, 53, 0, 0};
        for (int i = 0; i < right.length; i++) {
            Due.is("count(" + right[i] + ")", probe.court.count(right[i]), want[i]);
        }
    }

    // "10 + j the spot of told JUDGE j, 20 + j STEPS left of its WALK (told or not), 30 + i the spot of told LAMP i"
    private static void countOfWhoIsNotTold() {
        Probe probe = new Probe();
        probe.walk(0, "3n");
        probe.walk(1, "4n");
        int[] whats = {10, 11, 20, 21, 30, 31, 32, 33};
        int[] want = {-1, -1, 3, 4, -1, -1, -1, -1};
        for (int i = 0; i < whats.length; i++) {
            Due.is("count(" + whats[i] + ")", probe.court.count(whats[i]), want[i]);
        }
    }

    // "1 told JUDGES (bits), 2 told FELONS (bits), 3 told LAMPS (bits), 4 OWED by all": each one's bit, and all
    private static void countOfAll() {
        ShadowCourt court = new ShadowCourt();
        for (int f = 0; f < 10; f++) {
            court.felon(f, 5, 5, 999);
            Due.is("felons up to " + f, court.count(2), (2 << f) - 1);
            Due.is("owed by them", court.count(4), 999 * (f + 1));
        }
        court.judge(1, 1, 1);
        Due.is("judge 1", court.count(1), 2);
        court.judge(0, 2, 1);
        Due.is("both judges", court.count(1), 3);
        court.lamp(3, 1, 1);
        Due.is("lamp 3", court.count(3), 8);
        court.lamp(0, 1, 1);
        Due.is("lamps 0, 3", court.count(3), 9);
    }

    // "0 THE MINUTE": up to 9999
    private static void countOfTheMinuteAtLast() {
        Probe probe = new Probe();
        probe.goTo(9999);
        probe.court.minutes(120);
        Due.is("the last", probe.court.count(0), 9999);
    }

    // "100 + a spot what it is (0 plain, 1 wall, 2 stairs, 3 river)"
    private static void countOfSpots() {
        Probe probe = new Probe();
        probe.market("#sr7./" + "0./".repeat(8) + "6..rs#");
        int[] spots = {0, 1, 2, 3, 96, 97, 98, 99};
        int[] want = {1, 2, 3, 0, 0, 3, 2, 1};
        for (int i = 0; i < spots.length; i++) {
            Due.is("spot " + spots[i], probe.court.count(100 + spots[i]), want[i]);
        }
    }
}
