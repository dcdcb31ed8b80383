/** The sentences that name an edge: promises 14 (fewest) and 17 (dark), one test each. */
public final class FewestDarkEdgesTest {
    private static final int LEAST = Integer.MIN_VALUE;
    private static final int GREATEST = Integer.MAX_VALUE;

    public static void main(String[] args) {
        fewestOfNoSuchFelon();
        fewestOfNoSuchN();
        fewestOfNoSuchK();
        fewestThatCanNotBe();
        fewestIsNoStep();
        fewestOthersAside();
        fewestIsNotBoundByV();
        fewestThreeStepsAMinute();
        fewestNotThroughWalls();
        fewestNotThroughTheRiver();
        fewestNotAroundTheMarketsEnd();
        fewestFromNowOn();
        fewestOfTheWalks();
        fewestWithoutClouds();
        fewestNotByNight();
        fewestBehindSoManyOfThem();
        fewestInMoreThanSoMany();
        fewestOfWhoNeedNotServe();
        fewestAtTheCorners();
        fewestBehindTheLastMinute();
        fewestChangesNothing();
        darkOfNoSuchN();
        darkOfNoSuchWhat();
        darkAllWalls();
        darkWithoutAShadow();
        darkCountsNoWalls();
        darkCountsRiverAndStairs();
        darkBehindTheirStep();
        darkEachMinuteOnce();
        darkOfLikeOnesTheLowest();
        darkAtTheCorners();
        darkWithoutClouds();
        darkNotByNight();
        darkFromNowOn();
        darkBehindTheLastMinute();
        darkChangesNothing();
        Due.end("FewestDarkEdgesTest");
    }

    /** Judge 0 at x 2, y 2, shadows on 23, 24, 25. */
    private static Probe eastward() {
        Probe probe = new Probe();
        probe.law("a2(0=0);l3(0=0)");
        probe.court.judge(0, 2, 2);
        return probe;
    }

    // "of a told FELON", "NONE: no such ones"
    private static void fewestOfNoSuchFelon() {
        Probe probe = eastward();
        probe.court.felon(9, 3, 3, 5);
        int[] wrong = {-1, 0, 8, 10, LEAST, GREATEST};
        for (int f : wrong) {
            Due.is("felon " + f, probe.court.fewest(f, 1, 1), -1);
        }
        Due.is("felon 9", probe.court.fewest(9, 1, 1), 1);
    }

    // "in n MINUTES (1 to 30)"
    private static void fewestOfNoSuchN() {
        Probe probe = eastward();
        probe.court.felon(0, 3, 3, 5);
        int[] wrong = {0, -1, 31, LEAST, GREATEST};
        for (int n : wrong) {
            Due.is("n " + n, probe.court.fewest(0, n, 1), -1);
        }
        Due.is("n 1", probe.court.fewest(0, 1, 1), 1);
        Due.is("n 30", probe.court.fewest(0, 30, 1), 1);
    }

    // "for k of them (1 to n)"
    private static void fewestOfNoSuchK() {
        Probe probe = eastward();
        probe.court.felon(0, 3, 3, 5);
        int[] ns = {1, 2, 29, 30};
        for (int n : ns) {
            Due.is("k 0 of " + n, probe.court.fewest(0, n, 0), -1);
            Due.is("k -1 of " + n, probe.court.fewest(0, n, -1), -1);
            Due.is("k 1 of " + n, probe.court.fewest(0, n, 1), 1);
            Due.is("k n of " + n, probe.court.fewest(0, n, n), 1);
            Due.is("k n + 1 of " + n, probe.court.fewest(0, n, n + 1), -1);
        }
        Due.is("least k", probe.court.fewest(0, 9, LEAST), -1);
        Due.is("greatest k", probe.court.fewest(0, 9, GREATEST), -1);
    }

    // "-2: it can't be"
    private static void fewestThatCanNotBe() {
        Probe probe = new Probe();
        probe.court.felon(0, 3, 3, 5);
        Due.is("no judge, no law", probe.court.fewest(0, 30, 1), -2);
        probe.law("a2(0=0);l3(0=0)");
        Due.is("no judge", probe.court.fewest(0, 30, 1), -2);
        probe.court.judge(0, 9, 2);
        Due.is("no shadow", probe.court.fewest(0, 30, 1), -2);
        probe.court.judge(0, 2, 2);
        Due.is("a shadow", probe.court.fewest(0, 30, 30), 1);
        probe.court.felon(0, 9, 9, 5);
        Due.is("too far for all of them", probe.court.fewest(0, 30, 30), -2);
    }

    // "the fewest STEPS": none at all
    private static void fewestIsNoStep() {
        Probe probe = eastward();
        probe.court.felon(0, 3, 2, 5);
        Due.is("it is there", probe.court.fewest(0, 1, 1), 0);
        Due.is("it stays", probe.court.fewest(0, 30, 30), 0);
    }

    // "a FELON alone (others aside ..)"
    private static void fewestOthersAside() {
        Probe probe = new Probe();
        probe.law("a2(0=0);l1(0=0)");
        probe.court.judge(0, 2, 2);
        probe.court.felon(0, 3, 2, 5);
        probe.court.felon(1, 3, 3, 5);
        Due.is("where felon 0 is", probe.court.fewest(1, 3, 3), 1);
    }

    // "(.. v does not bind it)"
    private static void fewestIsNotBoundByV() {
        Probe probe = eastward();
        probe.court.felon(0, 3, 5, 5);
        Due.is("v", probe.court.felonIs(0, 4), 0);
        Due.is("three steps", probe.court.fewest(0, 1, 1), 3);
    }

    // "at most 3 STEPS a MINUTE"
    private static void fewestThreeStepsAMinute() {
        Probe probe = eastward();
        probe.court.felon(0, 3, 5, 5);
        Due.is("three in one", probe.court.fewest(0, 1, 1), 3);
        probe.court.felon(0, 3, 6, 5);
        Due.is("four in one", probe.court.fewest(0, 1, 1), -2);
        Due.is("four in two", probe.court.fewest(0, 2, 1), 4);
        probe.court.felon(0, 3, 8, 5);
        Due.is("six in two", probe.court.fewest(0, 2, 1), 6);
        probe.court.felon(0, 3, 9, 5);
        Due.is("seven in two", probe.court.fewest(0, 2, 1), -2);
        Due.is("seven in three", probe.court.fewest(0, 3, 1), 7);
    }

    // "(4 ways, no walls ..)"
    private static void fewestNotThroughWalls() {
        Probe probe = eastward();
        probe.court.felon(0, 3, 4, 5);
        probe.marketWith(3, "0#");
        Due.is("walls all along", probe.court.fewest(0, 30, 1), -2);
        probe.marketWith(3, "9#.");
        Due.is("a gap at the end", probe.court.fewest(0, 30, 1), 6 + 2 + 4);
        probe.marketWith(3, "3.#6.");
        Due.is("one wall", probe.court.fewest(0, 30, 1), 3);
    }

    // "(.. no river)"
    private static void fewestNotThroughTheRiver() {
        Probe probe = eastward();
        probe.court.felon(0, 3, 4, 5);
        probe.marketWith(3, "0r");
        Due.is("the river all along", probe.court.fewest(0, 30, 1), -2);
        probe.marketWith(2, "3.3r4.");
        Due.is("all of its shadow is river", probe.court.fewest(0, 30, 1), -2);
        probe.marketWith(2, "3.2r5.");
        Due.is("but one spot", probe.court.fewest(0, 30, 1), 4);
        probe.marketWith(3, "0s");
        Due.is("over stairs", probe.court.fewest(0, 1, 1), 2);
    }

    // The market's end is an end: a row does not lead on to the next one.
    private static void fewestNotAroundTheMarketsEnd() {
        Probe probe = new Probe();
        probe.law("a2(0=0);l1(0=0)");
        probe.court.judge(0, 8, 4);
        probe.court.felon(0, 0, 5, 5);
        Due.is("from 50 to 49", probe.court.fewest(0, 30, 1), 10);
        probe.court.felon(0, 9, 9, 5);
        Due.is("from 99 to 49", probe.court.fewest(0, 30, 1), 5);
    }

    // "n MINUTES of the JUDGES' WALKS from now on": by THE LAW in each of them
    private static void fewestFromNowOn() {
        Probe probe = eastward();
        probe.law("a2(t=5);l3(t=5)");
        probe.court.felon(0, 3, 2, 5);
        Due.is("not in five", probe.court.fewest(0, 5, 1), -2);
        Due.is("in six", probe.court.fewest(0, 6, 1), 0);
        probe.court.minutes(5);
        Due.is("now", probe.court.fewest(0, 1, 1), 0);
        probe.court.minutes(1);
        Due.is("no more", probe.court.fewest(0, 30, 1), -2);
    }

    // "of the JUDGES' WALKS": behind their STEP
    private static void fewestOfTheWalks() {
        Probe probe = new Probe();
        probe.law("a2(0=0);l1(0=0)");
        probe.court.judge(0, 2, 2);
        probe.walk(0, "e");
        probe.court.felon(0, 3, 2, 5);
        Due.is("one along with it", probe.court.fewest(0, 1, 1), 1);
        Due.is("and it stays", probe.court.fewest(0, 30, 30), 1);
        probe.walk(0, "9n");
        Due.is("seven times along with it", probe.court.fewest(0, 7, 7), 7);
    }

    // "no clouds"
    private static void fewestWithoutClouds() {
        Probe probe = eastward();
        probe.law("a2(0=0);l3(0=0);c10(0=0)");
        probe.court.felon(0, 3, 3, 5);
        Due.is("all cloudy", probe.court.fewest(0, 9, 9), 1);
    }

    // "not night, LAMPS aside"
    private static void fewestNotByNight() {
        Probe probe = eastward();
        probe.law("n(0=0)");
        probe.court.lamp(0, 1, 2);
        probe.court.felon(0, 3, 2, 5);
        Due.is("it is in a lamp's", probe.court.shade(3, 2), 1);
        Due.is("that is none", probe.court.fewest(0, 30, 1), -2);
    }

    // "by which it is in a SHADOW behind so many of them"
    private static void fewestBehindSoManyOfThem() {
        Probe probe = new Probe();
        probe.law("a2(t%2=0);l1(t%2=0)");
        probe.court.judge(0, 2, 2);
        probe.court.felon(0, 3, 2, 5);
        Due.is("one of one", probe.court.fewest(0, 1, 1), 0);
        Due.is("two of two", probe.court.fewest(0, 2, 2), -2);
        Due.is("two of three", probe.court.fewest(0, 3, 2), 0);
        Due.is("fifteen of thirty", probe.court.fewest(0, 30, 15), 0);
        Due.is("sixteen of thirty", probe.court.fewest(0, 30, 16), -2);
    }

    // The same: who is in it behind more of them is so behind so many.
    private static void fewestInMoreThanSoMany() {
        Probe probe = eastward();
        probe.court.felon(0, 3, 3, 5);
        for (int k = 1; k <= 9; k++) {
            Due.is(k + " of nine", probe.court.fewest(0, 9, k), 1);
        }
    }

    // "of a told FELON": it need not OWE anything
    private static void fewestOfWhoNeedNotServe() {
        Probe probe = eastward();
        probe.court.felon(0, 3, 3, 0);
        Due.is("it owes nothing", probe.court.fewest(0, 1, 1), 1);
        probe.marketWith(2, "3.r6.");
        probe.court.felon(1, 3, 3, 5);
        probe.law("a2(0=0);l3(0=0);v1(0=0)");
        probe.court.minutes(1);
        Due.is("it has drowned", probe.court.felonIs(1, 3), 1);
        Due.is("it is there", probe.court.fewest(1, 1, 1), 0);
    }

    // The first and the last spot there are.
    private static void fewestAtTheCorners() {
        Probe probe = new Probe();
        probe.law("a6(j=0);a2(0=0);l1(0=0)");
        probe.court.judge(0, 1, 0);
        probe.court.felon(0, 0, 0, 5);
        Due.is("in spot 0", probe.court.fewest(0, 9, 9), 0);
        probe.court.felon(0, 0, 3, 5);
        Due.is("to spot 0", probe.court.fewest(0, 1, 1), 3);
        probe.court.judge(1, 8, 9);
        probe.court.felon(0, 9, 9, 5);
        Due.is("in spot 99", probe.court.fewest(0, 9, 9), 0);
        probe.court.felon(0, 9, 6, 5);
        Due.is("to spot 99", probe.court.fewest(0, 1, 1), 3);
        Due.is("it stays in it", probe.court.fewest(0, 9, 9), 3);
    }

    // "(9999 at most: then none goes by)"
    private static void fewestBehindTheLastMinute() {
        Probe probe = eastward();
        probe.goTo(9998);
        probe.court.felon(0, 3, 2, 5);
        Due.is("one can", probe.court.fewest(0, 30, 1), 0);
        Due.is("two can't", probe.court.fewest(0, 30, 2), -2);
        probe.goTo(9999);
        Due.is("none can", probe.court.fewest(0, 30, 1), -2);
    }

    private static void fewestChangesNothing() {
        Probe probe = eastward();
        probe.walk(0, "9n");
        probe.court.felon(0, 3, 5, 5);
        Picture before = new Picture(probe.court);
        probe.court.fewest(0, 30, 9);
        before.isStill("behind fewest", probe.court);
    }

    private static void dark(String what, Probe probe, int n, int none, int spot, int most) {
        Due.is(what + ", in none", probe.court.dark(n, 0), none);
        Due.is(what + ", the spot", probe.court.dark(n, 1), spot);
        Due.is(what + ", in how many", probe.court.dark(n, 2), most);
    }

    // "over n MINUTES (1 to 60)"
    private static void darkOfNoSuchN() {
        Probe probe = eastward();
        int[] wrong = {0, -1, 61, LEAST, GREATEST};
        for (int n : wrong) {
            dark("n " + n, probe, n, -1, -1, -1);
        }
        dark("n 1", probe, 1, 97, 23, 1);
        dark("n 60", probe, 60, 97, 23, 60);
    }

    // promise 17: "NONE: no such ones": of what
    private static void darkOfNoSuchWhat() {
        Probe probe = eastward();
        int[] wrong = {-1, 3, LEAST, GREATEST};
        for (int what : wrong) {
            Due.is("what " + what, probe.court.dark(1, what), -1);
        }
    }

    // "(All walls: 0, -2, 0.)"
    private static void darkAllWalls() {
        Probe probe = eastward();
        probe.market("0#/".repeat(9) + "0#");
        dark("all walls", probe, 1, 0, -2, 0);
        dark("all walls", probe, 60, 0, -2, 0);
        probe.market("0#/".repeat(9) + "9#r");
        dark("all but the last", probe, 60, 1, 99, 0);
    }

    // "spots (no walls) that lie in no SHADOW in any of them": all of them
    private static void darkWithoutAShadow() {
        dark("no judge, no law", new Probe(), 60, 100, 0, 0);
        Probe probe = new Probe();
        probe.marketWith(0, "3#7.");
        dark("the lowest is no wall", probe, 60, 97, 3, 0);
    }

    // "spots (no walls)", "the spot (no wall)"
    private static void darkCountsNoWalls() {
        Probe probe = eastward();
        probe.marketWith(2, "5.5#", 9, "0#");
        dark("walls", probe, 9, 85 - 2, 23, 9);
    }

    // River and stairs are no walls.
    private static void darkCountsRiverAndStairs() {
        Probe probe = eastward();
        probe.marketWith(2, "3.rsr4.", 9, "5r5s");
        dark("river and stairs", probe, 9, 97, 23, 9);
    }

    // "behind their STEP"
    private static void darkBehindTheirStep() {
        Probe probe = eastward();
        probe.walk(0, "2e");
        dark("one", probe, 1, 97, 24, 1);
        dark("two", probe, 2, 96, 25, 2);
        dark("three, the walk is done", probe, 3, 96, 25, 3);
        Due.is("no step is done", probe.court.count(20), 2);
    }

    // "in how many (each MINUTE once)"
    private static void darkEachMinuteOnce() {
        Probe probe = eastward();
        probe.court.judge(1, 1, 2);
        Due.is("two shadows", probe.court.shade(3, 2), 2);
        dark("two shadows", probe, 5, 96, 22, 5);
    }

    // "of like ones the lowest"
    private static void darkOfLikeOnesTheLowest() {
        Probe probe = new Probe();
        probe.law("a0(0=0);l3(0=0)");
        probe.court.judge(0, 5, 5);
        probe.court.judge(1, 6, 4);
        dark("65 and 56", probe, 3, 94, 56, 3);
        probe.walk(1, "e");
        dark("it goes at once", probe, 3, 94, 57, 3);
        probe.walk(1, ".e");
        dark("it goes then", probe, 3, 91, 65, 3);
    }

    // The first and the last spot there are.
    private static void darkAtTheCorners() {
        Probe probe = new Probe();
        probe.law("a6(0=0);l1(0=0)");
        probe.court.judge(0, 1, 0);
        dark("spot 0", probe, 9, 99, 0, 9);
        probe.law("a2(0=0);l1(0=0)");
        probe.court.judge(0, 8, 9);
        dark("spot 99", probe, 9, 99, 99, 9);
        dark("and none behind", probe, 8, 99, 99, 8);
    }

    // "(no clouds ..)"
    private static void darkWithoutClouds() {
        Probe probe = eastward();
        probe.law("a2(0=0);l3(0=0);c10(0=0)");
        dark("all cloudy", probe, 9, 97, 23, 9);
    }

    // "(.. not night, LAMPS aside ..)"
    private static void darkNotByNight() {
        Probe probe = eastward();
        probe.law("n(0=0)");
        probe.court.lamp(0, 1, 2);
        dark("at night", probe, 9, 100, 0, 0);
    }

    // "from now on": by THE LAW in each of them
    private static void darkFromNowOn() {
        Probe probe = eastward();
        probe.law("a2(t=5);l3(t=5)");
        dark("not in five", probe, 5, 100, 0, 0);
        dark("in the sixth", probe, 60, 97, 23, 1);
        probe.court.minutes(6);
        dark("no more", probe, 60, 100, 0, 0);
    }

    // "(9999 at most: then none goes by)"
    private static void darkBehindTheLastMinute() {
        Probe probe = eastward();
        probe.goTo(9998);
        dark("one can", probe, 60, 97, 23, 1);
        probe.goTo(9999);
        dark("none can", probe, 60, 100, 0, 0);
    }

    private static void darkChangesNothing() {
        Probe probe = eastward();
        probe.walk(0, "9n");
        probe.court.felon(0, 3, 5, 5);
        Picture before = new Picture(probe.court);
        probe.court.dark(60, 0);
        before.isStill("behind dark", probe.court);
    }
}
