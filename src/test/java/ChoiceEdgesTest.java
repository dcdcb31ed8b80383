/** The sentences that name an edge: promises 15, 16, 18, 22 (home, first, hung, servedBy), one test each. */
public final class ChoiceEdgesTest {
    private static final int LEAST = Integer.MIN_VALUE;
    private static final int GREATEST = Integer.MAX_VALUE;

    public static void main(String[] args) {
        homeOfNoSuchJudge();
        homeOfNoSuchM();
        homeOfNoSuchWhat();
        homeTheLeastRow();
        homeTheLastRow();
        homeAStepThatLeadsNowhere();
        homeInPlaceOfItsWalk();
        homeTheOtherOnesAsItIs();
        homeByDrawsThatWillCome();
        homeWithNothingOwed();
        homeBehindTheLastMinute();
        homeChangesNothing();
        firstOfNoSuchN();
        firstOfNoSuchWhat();
        firstIsNobody();
        firstOfWhoOwesNothing();
        firstOfWhoHasDrowned();
        firstOfEachFelon();
        firstOfAll();
        firstOfLikeOnesTheLowest();
        firstInEachOfThem();
        firstByDrawsThatWillCome();
        firstBehindTheLastMinute();
        firstChangesNothing();
        hungOfNoSuchWhat();
        hungAtNone();
        hungMakesNone();
        hungOfPlainSpotsAlone();
        hungWithoutAJudge();
        hungWithoutAFelon();
        hungWithoutALamp();
        hungOfLikeOnesTheLowest();
        hungAtTheLastSpot();
        hungFourSpotsAway();
        hungOtherLampsAsTheyAre();
        hungJudgesOwnAside();
        hungIfItWereNight();
        hungInClouds();
        hungCountsSpotsOnce();
        hungHangsNone();
        servedByOfNoSuchN();
        servedByOfNoSuchWhat();
        servedByOneNotTold();
        servedByTheOtherOneNotThere();
        servedByInTheirOrder();
        servedByDrawsThatWillCome();
        servedByBehindTheLastMinute();
        servedByChangesNothing();
        Due.end("ChoiceEdgesTest");
    }

    /** Judge 0 at x 5, y 5, one shadow east of it; felons make no step. */
    private static Probe eastOne() {
        Probe probe = new Probe();
        probe.law("a2(0=0);l1(0=0)");
        probe.court.judge(0, 5, 5);
        return probe;
    }

    private static void home(String what, Probe probe, int less, int... steps) {
        Due.is(what + ", less", probe.court.home(0, steps.length, 10), less);
        for (int i = 0; i < steps.length; i++) {
            Due.is(what + ", step " + i, probe.court.home(0, steps.length, i), steps[i]);
        }
    }

    // "HOME of a told JUDGE", "NONE: no such ones"
    private static void homeOfNoSuchJudge() {
        Probe probe = eastOne();
        int[] wrong = {-1, 1, 2, LEAST, GREATEST};
        for (int j : wrong) {
            Due.is("judge " + j, probe.court.home(j, 1, 10), -1);
            Due.is("judge " + j, probe.court.home(j, 1, 0), -1);
        }
        probe.court.judge(1, 0, 0);
        Due.is("judge 1", probe.court.home(1, 1, 10), 0);
    }

    // "a way of m STEPS (1 to 5)"
    private static void homeOfNoSuchM() {
        Probe probe = eastOne();
        int[] wrong = {0, -1, 6, LEAST, GREATEST};
        for (int m : wrong) {
            Due.is("m " + m, probe.court.home(0, m, 10), -1);
            Due.is("m " + m, probe.court.home(0, m, 0), -1);
        }
        Due.is("m 1", probe.court.home(0, 1, 10), 0);
        Due.is("m 5", probe.court.home(0, 5, 10), 0);
    }

    // "what 10 .., else STEP what (0 on); NONE: no such ones"
    private static void homeOfNoSuchWhat() {
        Probe probe = eastOne();
        for (int m = 1; m <= 5; m++) {
            for (int what = -1; what <= 12; what++) {
                boolean isStep = what >= 0 && what < m;
                Due.is("what " + what + " of " + m, probe.court.home(0, m, what), isStep || what == 10 ? 0 : -1);
            }
        }
        Due.is("least what", probe.court.home(0, 5, LEAST), -1);
        Due.is("greatest what", probe.court.home(0, 5, GREATEST), -1);
    }

    // "of like ones the least row (n 0, e 1, s 2, w 3, stay 4)"
    private static void homeTheLeastRow() {
        Probe probe = eastOne();
        home("nothing to serve", probe, 0, 0, 0, 0, 0, 0);
        probe.court.felon(0, 7, 6, 9);
        home("n e and e n", probe, 1, 0, 1);
        probe.court.felon(0, 7, 4, 9);
        home("e s and s e", probe, 1, 1, 2);
        probe.court.felon(0, 5, 4, 9);
        home("s w and w s", probe, 1, 2, 3);
        probe.court.felon(0, 6, 6, 9);
        home("n stay", probe, 2, 0, 4);
    }

    // "stay 4": the greatest row of all
    private static void homeTheLastRow() {
        Probe probe = eastOne();
        probe.court.felon(0, 6, 5, 9);
        home("one", probe, 1, 4);
        home("five", probe, 5, 4, 4, 4, 4, 4);
    }

    // "a STEP that leads nowhere is a stay, too"
    private static void homeAStepThatLeadsNowhere() {
        Probe probe = eastOne();
        probe.court.felon(0, 6, 5, 9);
        probe.marketWith(4, "5.r4.", 5, "4.#5.");
        home("the river", probe, 1, 2);
        home("the river", probe, 5, 2, 2, 2, 2, 2);
        probe.marketWith(5, "4.#5.");
        home("a wall", probe, 5, 3, 3, 3, 3, 3);
        probe.court.judge(0, 0, 9);
        probe.court.felon(0, 1, 9, 9);
        home("off the market", probe, 5, 0, 0, 0, 0, 0);
        probe.marketWith();
        probe.court.judge(0, 5, 5);
        probe.court.felon(0, 6, 5, 9);
        probe.court.judge(1, 5, 6);
        home("the other judge", probe, 3, 0, 0, 0);
    }

    // "(.. in place of its WALK ..)"
    private static void homeInPlaceOfItsWalk() {
        Probe probe = eastOne();
        probe.walk(0, "9e");
        probe.court.felon(0, 6, 5, 9);
        home("it stays", probe, 3, 4, 4, 4);
        Due.is("its walk is as it was", probe.court.count(20), 9);
    }

    // "(.. the other one's as it is)"
    private static void homeTheOtherOnesAsItIs() {
        Probe probe = eastOne();
        probe.court.judge(1, 0, 9);
        probe.walk(1, "3e");
        probe.court.felon(0, 4, 9, 9);
        home("the other one comes", probe, 1, 0, 0, 0);
        Due.is("it has not come", probe.court.count(11), 90);
        Due.is("its walk is as it was", probe.court.count(21), 3);
    }

    // "by DRAWS that will come"
    private static void homeByDrawsThatWillCome() {
        for (int seed = 0; seed < 12; seed++) {
            Probe probe = eastOne();
            probe.law("a2(0=0);l1(0=0);c5(0=0)");
            probe.court.felon(0, 6, 5, 9);
            probe.court.seed(seed);
            int sunny = 5 - probe.court.tried(5, 3);
            Due.is("seed " + seed, probe.court.home(0, 5, 10), sunny);
            Due.is("X", probe.court.count(7), seed);
        }
    }

    // "by which OWED by all is least": nothing is OWED, or all of it is served
    private static void homeWithNothingOwed() {
        Probe probe = eastOne();
        probe.court.felon(0, 6, 5, 0);
        home("nothing is owed", probe, 0, 0, 0, 0);
        probe.court.felon(0, 6, 5, 1);
        home("all of it in one, which can be the second", probe, 1, 0, 2, 0);
    }

    // "(9999 at most: then none goes by)"
    private static void homeBehindTheLastMinute() {
        Probe probe = eastOne();
        probe.goTo(9998);
        probe.court.felon(0, 6, 5, 9);
        home("one can", probe, 1, 4, 0, 0);
        probe.goTo(9999);
        home("none can", probe, 0, 0, 0, 0);
    }

    private static void homeChangesNothing() {
        Probe probe = eastOne();
        probe.walk(0, "9n");
        probe.court.felon(0, 6, 5, 9);
        Picture before = new Picture(probe.court);
        probe.court.home(0, 5, 10);
        before.isStill("behind home", probe.court);
    }

    // "in n MINUTES (1 to 60)"
    private static void firstOfNoSuchN() {
        Probe probe = eastOne();
        int[] wrong = {0, -1, 61, LEAST, GREATEST};
        for (int n : wrong) {
            Due.is("n " + n, probe.court.first(n, 0), -1);
            Due.is("n " + n, probe.court.first(n, 1), -1);
        }
        Due.is("n 1", probe.court.first(1, 1), 0);
        Due.is("n 60", probe.court.first(60, 1), 0);
    }

    // promise 16: "NONE: no such ones": of what
    private static void firstOfNoSuchWhat() {
        Probe probe = eastOne();
        int[] wrong = {-1, 2, LEAST, GREATEST};
        for (int what : wrong) {
            Due.is("what " + what, probe.court.first(1, what), -1);
        }
    }

    // "nobody, if none makes it more than it is", "(-2: nobody)"
    private static void firstIsNobody() {
        Probe probe = new Probe();
        Due.is("none is told", probe.court.first(1, 0), -2);
        probe = eastOne();
        probe.court.felon(3, 6, 5, 9);
        Due.is("one alone", probe.court.first(9, 0), -2);
        Due.is("as it is", probe.court.first(9, 1), 9);
        probe.court.felon(4, 6, 5, 9);
        Due.is("as much by each", probe.court.first(9, 0), -2);
        Due.is("as it is", probe.court.first(9, 1), 9);
    }

    // "which FELON that OWES something"
    private static void firstOfWhoOwesNothing() {
        Probe probe = twoSpots(0, 1);
        probe.court.felon(1, 5, 5, 0);
        Due.is("it owes nothing", probe.court.first(1, 0), -2);
        Due.is("as it is", probe.court.first(1, 1), 1);
        probe.court.felon(1, 5, 5, 1);
        Due.is("it owes 1", probe.court.first(1, 0), 1);
    }

    // "and has not drowned"
    private static void firstOfWhoHasDrowned() {
        Probe probe = new Probe();
        probe.marketWith(5, "6.r3.");
        probe.law("a2(0=0);l1(0=0);v3(0=0)");
        probe.court.judge(0, 5, 5);
        probe.court.felon(0, 6, 6, 9);
        probe.court.minutes(1);
        probe.court.felon(1, 6, 6, 9);
        Due.is("who has is not first", probe.court.first(9, 0), -2);
        Due.is("the other one serves", probe.court.first(9, 1), 1);
    }

    /** Spots 56 and 57; one felon that takes 56, and another one that can reach that alone. */
    private static Probe twoSpots(int ahead, int behind) {
        Probe probe = new Probe();
        probe.court.judge(0, 5, 5);
        probe.law("a2(0=0);l2(0=0);v2(f=" + ahead + ");v1(0=0);o5(f=" + ahead + ")");
        probe.court.felon(ahead, 6, 6, 9);
        probe.court.felon(behind, 5, 5, 9);
        return probe;
    }

    // "FELONS 0 to 9": each of them
    private static void firstOfEachFelon() {
        for (int f = 0; f < 10; f++) {
            Probe probe = twoSpots((f + 1) % 10, f);
            Due.is("as it is", probe.court.tried(1, 0), 1);
            Due.is("felon " + f, probe.court.first(1, 0), f);
            Due.is("then", probe.court.first(1, 1), 2);
        }
    }

    // "going first of all": ahead of who has the greatest o
    private static void firstOfAll() {
        Probe probe = twoSpots(0, 9);
        probe.law("a2(0=0);l2(0=0);v2(f=0);v1(0=0);o999(f=0);o0(0=0)");
        Due.is("ahead of 999", probe.court.first(1, 0), 9);
        probe.law("a2(0=0);l2(0=0);v2(f=0);v1(0=0);o99999(f=0);o0(0=0)");
        Due.is("ahead of what is beyond", probe.court.first(1, 0), 9);
    }

    // "of like ones the lowest"
    private static void firstOfLikeOnesTheLowest() {
        Probe probe = twoSpots(0, 9);
        probe.court.felon(4, 5, 5, 9);
        probe.court.felon(5, 5, 5, 9);
        Due.is("4, 5 and 9", probe.court.first(1, 0), 4);
        Due.is("then", probe.court.first(1, 1), 2);
    }

    // "in each of n MINUTES"
    private static void firstInEachOfThem() {
        Probe probe = twoSpots(0, 1);
        for (int n = 1; n <= 9; n++) {
            Due.is("in " + n, probe.court.first(n, 1), 2 * n);
        }
        Due.is("till nothing is owed", probe.court.first(60, 1), 18);
        Due.is("as it is that, too", probe.court.first(60, 0), -2);
    }

    // "by DRAWS that will come"
    private static void firstByDrawsThatWillCome() {
        for (int seed = 0; seed < 12; seed++) {
            Probe probe = twoSpots(0, 1);
            probe.law("a2(0=0);l2(0=0);v2(f=0);v1(0=0);o5(f=0);c5(0=0)");
            probe.court.seed(seed);
            int sunny = 5 - probe.court.tried(5, 3);
            Due.is("seed " + seed, probe.court.first(5, 1), 2 * sunny);
            Due.is("X", probe.court.count(7), seed);
        }
    }

    // "(9999 at most: then none goes by)"
    private static void firstBehindTheLastMinute() {
        Probe probe = twoSpots(0, 1);
        probe.goTo(9998);
        probe.court.felon(0, 6, 6, 9);
        probe.court.felon(1, 5, 5, 9);
        Due.is("one can", probe.court.first(60, 1), 2);
        probe.goTo(9999);
        Due.is("none can", probe.court.first(60, 1), 0);
        Due.is("nobody", probe.court.first(60, 0), -2);
    }

    private static void firstChangesNothing() {
        Probe probe = twoSpots(0, 1);
        probe.walk(0, "9n");
        Picture before = new Picture(probe.court);
        probe.court.first(60, 0);
        before.isStill("behind first", probe.court);
    }

    private static void hung(String what, Probe probe, int spot, int many) {
        Due.is(what + ", the spot", probe.court.hung(0), spot);
        Due.is(what + ", how many", probe.court.hung(1), many);
    }

    private static Probe judgeAt(int x, int y) {
        Probe probe = new Probe();
        probe.court.judge(0, x, y);
        return probe;
    }

    // promise 18: "NONE: no such what"
    private static void hungOfNoSuchWhat() {
        ShadowCourt court = new ShadowCourt();
        int[] wrong = {-1, 2, LEAST, GREATEST};
        for (int what : wrong) {
            Due.is("what " + what, court.hung(what), -1);
        }
    }

    // "what 0 the spot (-2: none)"
    private static void hungAtNone() {
        Probe probe = new Probe();
        probe.market("0s/0#/0r/".repeat(3) + "0s");
        hung("no plain spot", probe, -2, 0);
        probe.market("0s/0#/0r/".repeat(3) + "s.8s");
        hung("one", probe, 91, 0);
        probe.court.felon(0, 1, 9, 0);
        hung("a felon in it", probe, -2, 0);
    }

    // "makes most spots in SHADOWS": none at all, of like ones the lowest
    private static void hungMakesNone() {
        hung("no judge", new Probe(), 0, 0);
        Probe probe = judgeAt(5, 5);
        probe.market("0#/".repeat(5) + "4#.s.3#/" + "0#/".repeat(3) + "9#.");
        hung("walls behind it", probe, 54, 1);
        probe.market("0#/".repeat(5) + "5#s4#/" + "0#/".repeat(3) + "9#.");
        hung("far from it", probe, 99, 0);
    }

    // "of plain spots (no wall, river, stairs)"
    private static void hungOfPlainSpotsAlone() {
        char[] kinds = {'#', 'r', 's'};
        for (char kind : kinds) {
            Probe probe = judgeAt(2, 2);
            hung("all plain", probe, 0, 2);
            probe.marketWith(0, kind + "9.");
            hung("without spot 0, " + kind, probe, 2, 2);
        }
    }

    // "without a JUDGE .."
    private static void hungWithoutAJudge() {
        for (int j = 0; j < 2; j++) {
            Probe probe = new Probe();
            probe.court.judge(j, 0, 0);
            hung("judge " + j + " in spot 0", probe, 1, 0);
        }
    }

    // "without a .. FELON ..": whatever it OWES
    private static void hungWithoutAFelon() {
        for (int f = 0; f < 10; f++) {
            Probe probe = judgeAt(2, 2);
            probe.court.felon(f, 0, 0, f);
            hung("felon " + f + " in spot 0", probe, 2, 2);
        }
    }

    // "without a .. LAMP"
    private static void hungWithoutALamp() {
        for (int i = 0; i < 4; i++) {
            Probe probe = new Probe();
            probe.court.lamp(i, 0, 0);
            hung("lamp " + i + " in spot 0", probe, 1, 0);
            probe.court.lamp(i, -1, 0);
            hung("lamp " + i + " no more", probe, 0, 0);
        }
    }

    // "of like ones the lowest"
    private static void hungOfLikeOnesTheLowest() {
        hung("one judge", judgeAt(5, 5), 11, 2);
        hung("at an end", judgeAt(9, 5), 19, 2);
        hung("in a corner", judgeAt(9, 9), 0, 0);
    }

    // The last spot there is.
    private static void hungAtTheLastSpot() {
        Probe probe = judgeAt(4, 4);
        probe.market("0s/".repeat(9) + "9s.");
        hung("too far", probe, 99, 0);
        probe.court.judge(0, 7, 7);
        hung("aslant", probe, 99, 2);
        probe.market("0s/".repeat(9) + "s.7s.");
        hung("another one that makes none", probe, 99, 2);
    }

    // "at most 4 spots away"
    private static void hungFourSpotsAway() {
        Probe probe = judgeAt(4, 4);
        probe.market(".9s/" + "0s/".repeat(8) + "0s");
        hung("four away", probe, 0, 2);
        probe.court.judge(0, 5, 5);
        hung("five away", probe, 0, 0);
    }

    // "other LAMPS as they are"
    private static void hungOtherLampsAsTheyAre() {
        Probe probe = judgeAt(5, 5);
        probe.court.lamp(0, 5, 4);
        hung("one more", probe, 11, 4);
        probe.market(".9s/" + "0s/".repeat(8) + "0s");
        hung("one that helps nothing", probe, 0, 2);
    }

    // "JUDGES' own aside"
    private static void hungJudgesOwnAside() {
        Probe probe = judgeAt(5, 5);
        probe.law("a2(0=0);l9(0=0)");
        hung("four of its own", probe, 11, 2);
        probe.law("a1(0=0);l9(0=0)");
        hung("on the same spots", probe, 11, 2);
    }

    // "if it were night"
    private static void hungIfItWereNight() {
        Probe probe = judgeAt(5, 5);
        hung("by day", probe, 11, 2);
        probe.law("n(0=0)");
        hung("by night", probe, 11, 2);
    }

    // "(clouds ..": of LAMPS there is a SHADOW, cloudy or not
    private static void hungInClouds() {
        Probe probe = judgeAt(5, 5);
        probe.law("c10(0=0)");
        probe.court.lamp(0, 5, 4);
        hung("all cloudy", probe, 11, 4);
    }

    // "most spots in SHADOWS": each once
    private static void hungCountsSpotsOnce() {
        Probe probe = judgeAt(5, 5);
        probe.court.lamp(0, 4, 5);
        probe.court.lamp(1, 3, 5);
        hung("two on the same spots", probe, 11, 4);
    }

    // "one LAMP more": it is asked alone
    private static void hungHangsNone() {
        Probe probe = judgeAt(5, 5);
        probe.law("n(0=0)");
        Picture before = new Picture(probe.court);
        probe.court.hung(0);
        Due.is("no lamp", probe.court.count(3), 0);
        before.isStill("behind hung", probe.court);
    }

    // "in n MINUTES (1 to 60)"
    private static void servedByOfNoSuchN() {
        Probe probe = eastOne();
        probe.court.judge(1, 0, 0);
        int[] wrong = {0, -1, 61, LEAST, GREATEST};
        for (int n : wrong) {
            for (int what = 0; what < 3; what++) {
                Due.is("n " + n + ", what " + what, probe.court.servedBy(n, what), -1);
            }
        }
        Due.is("n 1", probe.court.servedBy(1, 2), 0);
        Due.is("n 60", probe.court.servedBy(60, 2), 0);
    }

    // promise 22: "NONE: no such ones": of what
    private static void servedByOfNoSuchWhat() {
        Probe probe = eastOne();
        probe.court.judge(1, 0, 0);
        int[] wrong = {-1, 3, LEAST, GREATEST};
        for (int what : wrong) {
            Due.is("what " + what, probe.court.servedBy(1, what), -1);
        }
    }

    // "NONE: .. one (of 2: both) not told"
    private static void servedByOneNotTold() {
        for (int told = 0; told < 4; told++) {
            ShadowCourt court = new ShadowCourt();
            if ((told & 1) != 0) {
                court.judge(0, 5, 5);
            }
            if ((told & 2) != 0) {
                court.judge(1, 0, 0);
            }
            Due.is("judge 0, told " + told, court.servedBy(1, 0), (told & 1) != 0 ? 0 : -1);
            Due.is("judge 1, told " + told, court.servedBy(1, 1), (told & 2) != 0 ? 0 : -1);
            Due.is("both, told " + told, court.servedBy(1, 2), told == 3 ? 0 : -1);
        }
    }

    // "(the other one not there)": neither its SHADOW, nor in the way, nor before a LAMP
    private static void servedByTheOtherOneNotThere() {
        Probe probe = eastOne();
        probe.court.judge(1, 0, 0);
        probe.court.felon(0, 1, 0, 9);
        probe.court.felon(1, 6, 5, 9);
        probe.court.felon(2, 8, 5, 9);
        Due.is("judge 0 alone", probe.court.servedBy(3, 0), 3);
        Due.is("judge 1 alone", probe.court.servedBy(3, 1), 3);
        Due.is("both", probe.court.servedBy(3, 2), 6);
        probe.court.judge(1, 6, 5);
        probe.walk(0, "3e");
        Due.is("judge 0 goes on alone", probe.court.servedBy(2, 0), 1);
        Due.is("held up", probe.court.servedBy(2, 2), 2);
        probe.law("n(0=0)");
        probe.court.lamp(0, 7, 5);
        probe.walk(0, ".");
        probe.court.felon(3, 4, 5, 9);
        Due.is("a lamp behind judge 0 alone", probe.court.servedBy(1, 0), 1);
        Due.is("a lamp behind judge 1 alone", probe.court.servedBy(1, 1), 1);
    }

    // "n MINUTES": FELONS go by o, none of them first of all
    private static void servedByInTheirOrder() {
        for (int f = 0; f < 10; f++) {
            Probe probe = twoSpots((f + 1) % 10, f);
            probe.court.judge(1, 0, 0);
            Due.is("felon " + f + " comes behind", probe.court.servedBy(1, 0), 1);
            Due.is("with both", probe.court.servedBy(1, 2), 1);
            Due.is("home, felon " + f + " behind", probe.court.home(1, 1, 10), 1);
        }
    }

    // "by the DRAWS that will come"
    private static void servedByDrawsThatWillCome() {
        for (int seed = 0; seed < 12; seed++) {
            Probe probe = eastOne();
            probe.law("a2(0=0);l1(0=0);c5(0=0)");
            probe.court.judge(1, 0, 0);
            probe.court.felon(0, 1, 0, 99);
            probe.court.felon(1, 6, 5, 99);
            probe.court.seed(seed);
            int sunny = 5 - probe.court.tried(5, 3);
            Due.is("judge 0, seed " + seed, probe.court.servedBy(5, 0), sunny);
            Due.is("judge 1, seed " + seed, probe.court.servedBy(5, 1), sunny);
            Due.is("both, seed " + seed, probe.court.servedBy(5, 2), 2 * sunny);
            Due.is("X", probe.court.count(7), seed);
        }
    }

    // "(9999 at most: then none goes by)"
    private static void servedByBehindTheLastMinute() {
        Probe probe = eastOne();
        probe.court.judge(1, 0, 0);
        probe.goTo(9998);
        probe.court.felon(1, 6, 5, 99);
        Due.is("one can", probe.court.servedBy(60, 0), 1);
        Due.is("both", probe.court.servedBy(60, 2), 1);
        probe.goTo(9999);
        Due.is("none can", probe.court.servedBy(60, 0), 0);
        Due.is("both", probe.court.servedBy(60, 2), 0);
    }

    private static void servedByChangesNothing() {
        Probe probe = eastOne();
        probe.court.judge(1, 0, 0);
        probe.court.felon(1, 6, 5, 99);
        probe.walk(1, "9n");
        Picture before = new Picture(probe.court);
        for (int what = 0; what < 3; what++) {
            probe.court.servedBy(60, what);
        }
        before.isStill("behind servedBy", probe.court);
    }
}
