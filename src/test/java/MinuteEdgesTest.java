/** The sentences that name an edge: Terms, A MINUTE and DRAWS, and promises 9 and 10, one test each. */
public final class MinuteEdgesTest {
    public static void main(String[] args) {
        intoAWallItStays();
        intoTheRiverItStays();
        offTheMarketItStays();
        ontoTheOtherJudgeItStays();
        judgesGoByNumbers();
        aStepThatLeadsNowhereIsDone();
        withNoneLeftItStays();
        aJudgeThatIsNotTold();
        cloudyBelowC();
        noShadowOfJudgesInClouds();
        ofLampsThereIs();
        aDrawInEachMinute();
        drawsAreModulo65536();
        shadowsBehindTheirSteps();
        whoOwesNothingStays();
        whoHasDrownedStays();
        theGreatestFirst();
        ofLikeOnesTheLowestFelon();
        tenFelonsInALine();
        theFewestSteps();
        atMostVSteps();
        notThroughWalls();
        notAroundTheMarketsEnd();
        ofLikeOnesTheLowestSpot();
        noFelonThatWasAhead();
        othersAreInNobodysWay();
        findingNoneItIsAway();
        awayEndsAt999();
        lessByAsManyShadows();
        zeroAtLeast();
        atNightByOne();
        inEachThirdMinuteAlone();
        inTheRiverItDrowns();
        itDrownsWithNothingLeft();
        itDrownsAtNight();
        throughTheRiverItDoesNot();
        theMinuteIsOneMore();
        none9999();
        minutesOfNoSuchN();
        minutesAsManyAsCan();
        minutesHowMuchLess();
        triedOfNoSuchN();
        triedOfNoSuchWhat();
        triedOfFelonsNotTold();
        triedOfJudgesNotTold();
        triedAsManyAsCan();
        triedCountsAnew();
        triedHowOftenAway();
        triedWhoHasDrownedThen();
        triedWhoOwesNothingThen();
        triedChangesNothing();
        Due.end("MinuteEdgesTest");
    }

    /** Judge 0 at x 2, y 2, shadows on 23, 24, 25; felons make three steps. */
    private static Probe eastward() {
        Probe probe = new Probe();
        probe.law("a2(0=0);l3(0=0);v3(0=0)");
        probe.court.judge(0, 2, 2);
        return probe;
    }

    private static Probe eastward(String moreLaw) {
        Probe probe = eastward();
        probe.law("a2(0=0);l3(0=0);v3(0=0);" + moreLaw);
        return probe;
    }

    private static void walksTo(String what, Probe probe, String walk, int spot) {
        probe.walk(0, walk);
        Due.is(what, probe.court.tried(walk.length(), 30), spot);
    }

    // "(into a wall .. it stays)"
    private static void intoAWallItStays() {
        Probe probe = new Probe();
        probe.marketWith(4, "5.#4.", 5, "4.#.#3.", 6, "5.#4.");
        probe.court.judge(0, 5, 5);
        walksTo("north", probe, "n", 55);
        walksTo("east", probe, "e", 55);
        walksTo("south", probe, "s", 55);
        walksTo("west", probe, "w", 55);
    }

    // "(.. the river .. it stays)"; onto stairs it goes
    private static void intoTheRiverItStays() {
        Probe probe = new Probe();
        probe.marketWith(4, "5.r4.", 5, "4.r.r3.", 6, "5.s4.");
        probe.court.judge(0, 5, 5);
        walksTo("north, stairs", probe, "n", 65);
        walksTo("east", probe, "e", 55);
        walksTo("south", probe, "s", 55);
        walksTo("west", probe, "w", 55);
    }

    // "(.. off the market .. it stays)"
    private static void offTheMarketItStays() {
        Probe probe = new Probe();
        probe.court.judge(0, 0, 0);
        walksTo("south", probe, "s", 0);
        walksTo("west", probe, "w", 0);
        probe.court.judge(0, 9, 9);
        walksTo("north", probe, "n", 99);
        walksTo("east", probe, "e", 99);
        probe.court.judge(0, 9, 4);
        walksTo("not to the next row", probe, "e", 49);
        probe.court.judge(0, 0, 4);
        walksTo("not to the row ahead", probe, "w", 40);
        probe.court.judge(1, 5, 5);
        walksTo("with the other one told", probe, "w", 40);
        Due.is("that one", probe.court.tried(1, 31), 55);
    }

    // "(.. onto the other JUDGE: it stays ..)"
    private static void ontoTheOtherJudgeItStays() {
        Probe probe = new Probe();
        probe.court.judge(0, 5, 5);
        probe.court.judge(1, 6, 5);
        walksTo("judge 0", probe, "e", 55);
        probe.walk(0, ".");
        probe.walk(1, "w");
        Due.is("judge 1", probe.court.tried(1, 31), 56);
    }

    // "each JUDGE, by numbers": judge 1 goes where judge 0 has left
    private static void judgesGoByNumbers() {
        Probe probe = new Probe();
        probe.court.judge(0, 5, 5);
        probe.court.judge(1, 6, 5);
        probe.walk(0, "w");
        probe.walk(1, "w");
        Due.is("judge 0 goes", probe.court.tried(1, 30), 54);
        Due.is("judge 1 follows", probe.court.tried(1, 31), 55);
        probe.walk(0, "e");
        probe.walk(1, "e");
        Due.is("judge 0 is held up", probe.court.tried(1, 30), 55);
        Due.is("judge 1 goes", probe.court.tried(1, 31), 57);
    }

    // "does the next STEP": it is done, wherever it leads
    private static void aStepThatLeadsNowhereIsDone() {
        Probe probe = new Probe();
        probe.court.judge(0, 0, 0);
        probe.walk(0, "sse.n");
        int[] spots = {0, 0, 1, 1, 11};
        for (int i = 0; i < spots.length; i++) {
            probe.court.minutes(1);
            Due.is("spot behind " + (i + 1), probe.court.count(10), spots[i]);
            Due.is("left behind " + (i + 1), probe.court.count(20), 4 - i);
        }
    }

    // "with none left it stays"
    private static void withNoneLeftItStays() {
        Probe probe = new Probe();
        probe.court.judge(0, 0, 0);
        probe.walk(0, "2e");
        Due.is("behind all", probe.court.tried(2, 30), 2);
        Due.is("with none left", probe.court.tried(3, 30), 2);
        probe.court.minutes(5);
        Due.is("none left", probe.court.count(20), 0);
        Due.is("it stays", probe.court.tried(120, 30), 2);
    }

    // "JUDGES 0, 1: told or not": one that is not goes no STEP
    private static void aJudgeThatIsNotTold() {
        Probe probe = new Probe();
        probe.walk(0, "5n");
        probe.court.minutes(3);
        Due.is("left", probe.court.count(20), 5);
        probe.court.judge(0, 0, 0);
        Due.is("it goes all of them", probe.court.tried(9, 30), 50);
    }

    // "With a DRAW: below c it is cloudy"
    private static void cloudyBelowC() {
        for (int seed = 0; seed < 30; seed++) {
            int draw = (25173 * seed + 13849) % 65536 % 10;
            for (int c = draw; c <= draw + 1; c++) {
                Probe probe = new Probe();
                probe.law("c" + c + "(0=0)");
                probe.court.seed(seed);
                Due.is("draw " + draw + ", c " + c, probe.court.tried(1, 3), c == draw ? 0 : 1);
            }
        }
    }

    // "there is no SHADOW of JUDGES"
    private static void noShadowOfJudgesInClouds() {
        Probe probe = eastward("c10(t=1)");
        probe.court.felon(0, 3, 2, 9);
        Due.is("one minute without clouds", probe.court.tried(1, 0), 1);
        Due.is("one with them", probe.court.tried(2, 0), 1);
        Due.is("it is away then", probe.court.tried(2, 1), 1);
        Due.is("a third without", probe.court.tried(3, 0), 2);
    }

    // "(of LAMPS there is)"
    private static void ofLampsThereIs() {
        Probe probe = eastward("c10(0=0);n(0=0)");
        probe.court.felon(0, 3, 2, 9);
        Due.is("no lamp", probe.court.tried(1, 0), 0);
        probe.court.lamp(0, 1, 2);
        Due.is("a lamp", probe.court.tried(1, 0), 1);
        probe.law("a2(0=0);l3(0=0);v3(0=0);c10(0=0)");
        Due.is("a lamp by day", probe.court.tried(1, 0), 0);
    }

    // "With a DRAW": in each MINUTE one, whatever c, whoever is there
    private static void aDrawInEachMinute() {
        String[] laws = {"v1(0=0)", "c0(0=0)", "c10(0=0)", "c5(0=1)", "n(0=0)"};
        for (String law : laws) {
            Probe probe = new Probe();
            probe.law(law);
            probe.court.minutes(1);
            Due.is("X behind a minute, law " + law, probe.court.count(7), 39022);
            probe.court.minutes(2);
            Due.is("X behind three, law " + law, probe.court.count(7), nextX(nextX(39022)));
        }
        ShadowCourt court = new ShadowCourt();
        court.minutes(1);
        Due.is("without a law", court.count(7), 39022);
    }

    private static int nextX(int x) {
        return (int) ((25173L * x + 13849) % 65536);
    }

    // "X = (25173 X + 13849) modulo 65536"
    private static void drawsAreModulo65536() {
        int[] seeds = {0, 1, 2, 3, 32767, 32768, 65534, 65535};
        for (int seed : seeds) {
            ShadowCourt court = new ShadowCourt();
            court.seed(seed);
            int x = seed;
            for (int i = 0; i < 20; i++) {
                court.minutes(1);
                x = nextX(x);
                Due.is("X behind " + (i + 1) + " of seed " + seed, court.count(7), x);
            }
        }
    }

    // (1) goes ahead of (3): shadows are where the JUDGES stand behind their STEP
    private static void shadowsBehindTheirSteps() {
        Probe probe = new Probe();
        probe.law("a2(0=0);l1(0=0)");
        probe.court.judge(0, 2, 2);
        probe.walk(0, "e");
        probe.court.felon(0, 4, 2, 9);
        probe.court.felon(1, 3, 2, 9);
        Due.is("behind the step", probe.court.tried(1, 20), 8);
        Due.is("ahead of it", probe.court.tried(1, 21), 9);
    }

    // "FELONS that OWE something"
    private static void whoOwesNothingStays() {
        Probe probe = eastward();
        probe.court.felon(0, 3, 3, 0);
        probe.court.minutes(2);
        Due.is("it stays", probe.court.felonIs(0, 0), 33);
        Due.is("it is not away", probe.court.felonIs(0, 2), 0);
        probe.court.felon(0, 3, 3, 1);
        probe.court.minutes(1);
        Due.is("who owes 1 goes", probe.court.felonIs(0, 0), 23);
        Due.is("and owes nothing", probe.court.felonIs(0, 1), 0);
    }

    // "and have not drowned"
    private static void whoHasDrownedStays() {
        Probe probe = eastward();
        probe.marketWith(2, "3.r6.");
        probe.court.felon(0, 3, 3, 9);
        probe.court.minutes(1);
        Due.is("it has drowned", probe.court.felonIs(0, 3), 1);
        probe.court.judge(0, 7, 7);
        probe.court.minutes(3);
        Due.is("it stays", probe.court.felonIs(0, 0), 23);
        Due.is("it owes as much", probe.court.felonIs(0, 1), 8);
        Due.is("it is not away", probe.court.felonIs(0, 2), 0);
        Due.is("it has drowned still", probe.court.felonIs(0, 3), 1);
    }

    // "by o (the greatest first ..)"
    private static void theGreatestFirst() {
        Probe probe = eastward("of(0=0)");
        for (int f = 0; f < 4; f++) {
            probe.court.felon(f, 2, 2, 9);
        }
        int[] spots = {22, 25, 24, 23};
        for (int f = 0; f < 4; f++) {
            Due.is("felon " + f, probe.court.tried(1, 10 + f), spots[f]);
        }
        Due.is("the least is away", probe.court.tried(1, 1), 1);
    }

    // "(.. of like ones the lowest ..)"
    private static void ofLikeOnesTheLowestFelon() {
        Probe probe = eastward("of%2(0=0)");
        for (int f = 0; f < 4; f++) {
            probe.court.felon(f, 2, 2, 9);
        }
        int[] spots = {25, 23, 22, 24};
        for (int f = 0; f < 4; f++) {
            Due.is("felon " + f, probe.court.tried(1, 10 + f), spots[f]);
        }
    }

    // "FELONS 0 to 9": all ten, by o, as they are put in line from behind, from ahead, and between
    private static void tenFelonsInALine() {
        String[] ranks = {"f", "9-f", "f*7%10", "f*3%10", "0"};
        for (String rank : ranks) {
            Probe probe = new Probe();
            probe.law("a2(0=0);l9(j=0);l1(0=0);v3(0=0);o" + rank + "(0=0)");
            probe.court.judge(0, 0, 2);
            probe.court.judge(1, 8, 3);
            // spots 21 to 29, and 39: felons all at 26, so 26, 25, 27, 24, 28, 23, 29 and no more
            for (int f = 0; f < 10; f++) {
                probe.court.felon(f, 6, 2, 9);
            }
            int[] spots = {26, 25, 27, 24, 28, 23, 29};
            int[] line = lineBy(rank);
            for (int i = 0; i < 10; i++) {
                int want = i < spots.length ? spots[i] : 26;
                Due.is("by " + rank + ", felon " + line[i], probe.court.tried(1, 10 + line[i]), want);
            }
            Due.is("by " + rank + ", away", probe.court.tried(1, 1), 3);
        }
    }

    private static int[] lineBy(String rank) {
        int[] line = new int[10];
        for (int f = 0; f < 10; f++) {
            int place = switch (rank) {
                case "f" -> 9 - f;
                case "9-f", "0" -> f;
                case "f*7%10" -> 9 - f * 7 % 10;
                default -> 9 - f * 3 % 10;
            };
            line[place] = f;
        }
        return line;
    }

    // "to that spot in a SHADOW to which the fewest STEPS lead"
    private static void theFewestSteps() {
        Probe probe = eastward();
        int[][] ways = {{3, 2, 23}, {4, 2, 24}, {5, 2, 25}, {6, 2, 25}, {5, 5, 25}, {1, 2, 23}, {3, 0, 23}};
        for (int[] way : ways) {
            probe.court.felon(0, way[0], way[1], 9);
            Due.is("from " + way[0] + ", " + way[1], probe.court.tried(1, 10), way[2]);
        }
    }

    // "at most v"
    private static void atMostVSteps() {
        for (int v = 0; v < 4; v++) {
            Probe probe = new Probe();
            probe.law("a2(0=0);l1(0=0);v" + v + "(0=0)");
            probe.court.judge(0, 2, 2);
            probe.court.felon(0, 3, 2 + v, 9);
            Due.is("v " + v + ", so many steps", probe.court.tried(1, 10), 23);
            Due.is("v " + v + ", how many", probe.court.tried(1, 4), v);
            probe.court.felon(0, 3, 3 + v, 9);
            Due.is("v " + v + ", one more", probe.court.tried(1, 10), 33 + 10 * v);
            Due.is("v " + v + ", it is away", probe.court.tried(1, 1), 1);
        }
    }

    // "(4 ways, not through walls ..)"
    private static void notThroughWalls() {
        Probe probe = eastward();
        probe.marketWith(3, "0#");
        probe.court.felon(0, 3, 4, 9);
        Due.is("a wall between", probe.court.tried(1, 10), 43);
        probe.marketWith(3, "4.#5.");
        probe.court.felon(0, 4, 4, 9);
        Due.is("around it", probe.court.tried(1, 10), 23);
        Due.is("three steps", probe.court.tried(1, 4), 3);
        probe.marketWith(3, "3.3#4.");
        Due.is("around them it is four", probe.court.tried(1, 10), 44);
        probe.marketWith(3, "0s");
        Due.is("over stairs", probe.court.tried(1, 10), 24);
    }

    // The market's end is an end: a row does not lead on to the next one.
    private static void notAroundTheMarketsEnd() {
        Probe probe = new Probe();
        probe.law("a2(0=0);l1(0=0);v3(0=0)");
        probe.court.judge(0, 8, 4);
        probe.court.felon(0, 0, 5, 9);
        Due.is("spot 50 is far from 49", probe.court.tried(1, 10), 50);
        probe.law("a6(0=0);l1(0=0);v3(0=0)");
        probe.court.judge(0, 1, 4);
        probe.court.felon(0, 9, 3, 9);
        Due.is("spot 39 is far from 40", probe.court.tried(1, 10), 39);
        probe.court.judge(0, 1, 0);
        probe.court.felon(0, 0, 9, 9);
        Due.is("spot 90 is far from 0", probe.court.tried(1, 10), 90);
    }

    // "of like ones the lowest spot"
    private static void ofLikeOnesTheLowestSpot() {
        Probe probe = new Probe();
        probe.law("a2(j=0);l1(j=0);a6(0=0);l1(0=0);v3(0=0)");
        probe.court.judge(0, 3, 5);
        probe.court.judge(1, 7, 5);
        probe.court.felon(0, 5, 5, 9);
        Due.is("54 and 56", probe.court.tried(1, 10), 54);
        probe.court.judge(0, 4, 6);
        probe.court.judge(1, 6, 4);
        Due.is("65 and 45", probe.court.tried(1, 10), 45);
        probe.court.felon(0, 5, 6, 9);
        Due.is("but 65 is where it is", probe.court.tried(1, 10), 65);
    }

    // "on which no FELON is that was ahead of it in this MINUTE and found one"
    private static void noFelonThatWasAhead() {
        Probe probe = new Probe();
        probe.law("a2(0=0);l1(0=0);v3(0=0)");
        probe.court.judge(0, 2, 2);
        probe.court.felon(0, 3, 3, 9);
        probe.court.felon(1, 3, 2, 9);
        Due.is("felon 0 goes there", probe.court.tried(1, 10), 23);
        Due.is("felon 1 finds none", probe.court.tried(1, 21), 9);
        Due.is("and stays", probe.court.tried(1, 11), 23);
        Due.is("it is away", probe.court.tried(1, 1), 1);
    }

    // The same: those that were ahead and found none, that come behind, that owe nothing, that have drowned.
    private static void othersAreInNobodysWay() {
        Probe probe = new Probe();
        probe.law("a2(0=0);l1(0=0);v3(f=1);v0(0=0)");
        probe.court.judge(0, 2, 2);
        probe.court.felon(0, 9, 9, 9);
        probe.court.felon(1, 3, 3, 9);
        probe.court.felon(2, 3, 2, 9);
        probe.court.felon(3, 3, 2, 0);
        Due.is("felon 1 goes there", probe.court.tried(1, 11), 23);
        Due.is("felon 1 serves", probe.court.tried(1, 21), 8);
        probe = eastward();
        probe.marketWith(2, "3.r6.");
        probe.law("a2(0=0);l1(0=0);v3(0=0)");
        probe.court.felon(0, 3, 3, 9);
        probe.court.minutes(1);
        probe.court.felon(1, 3, 3, 9);
        Due.is("where one has drowned", probe.court.tried(1, 11), 23);
    }

    // "finding none it stays where it is, and is AWAY one MINUTE more"
    private static void findingNoneItIsAway() {
        Probe probe = new Probe();
        probe.court.felon(0, 5, 5, 9);
        probe.court.minutes(1);
        Due.is("it stays", probe.court.felonIs(0, 0), 55);
        Due.is("away", probe.court.felonIs(0, 2), 1);
        Due.is("it owes as much", probe.court.felonIs(0, 1), 9);
        probe.court.minutes(2);
        Due.is("away", probe.court.felonIs(0, 2), 3);
    }

    // "AWAY (0 to 999 ..)"
    private static void awayEndsAt999() {
        Probe probe = new Probe();
        probe.court.felon(9, 5, 5, 9);
        Due.is("at first", probe.court.felonIs(9, 2), 0);
        probe.goTo(998);
        Due.is("behind 998", probe.court.felonIs(9, 2), 998);
        probe.goTo(999);
        Due.is("behind 999", probe.court.felonIs(9, 2), 999);
        probe.goTo(1000);
        Due.is("behind 1000", probe.court.felonIs(9, 2), 999);
        probe.goTo(1200);
        Due.is("behind 1200", probe.court.felonIs(9, 2), 999);
    }

    // "OWED is less by as many SHADOWS as it lies in"
    private static void lessByAsManyShadows() {
        Probe probe = eastward();
        probe.court.felon(0, 3, 2, 9);
        Due.is("one", probe.court.tried(1, 0), 1);
        probe.court.judge(1, 1, 2);
        Due.is("two", probe.court.tried(1, 0), 2);
    }

    // "(0 at least)"
    private static void zeroAtLeast() {
        Probe probe = eastward();
        probe.court.judge(1, 1, 2);
        for (int owed = 1; owed <= 3; owed++) {
            probe.court.felon(0, 3, 2, owed);
            Due.is("of " + owed + ", less", probe.court.tried(1, 0), Math.min(owed, 2));
            Due.is("of " + owed + ", left", probe.court.tried(1, 20), Math.max(owed - 2, 0));
        }
    }

    // "at night by 1": in how many SHADOWS ever it lies
    private static void atNightByOne() {
        Probe probe = eastward("n(0=0)");
        probe.court.judge(1, 1, 2);
        probe.court.lamp(0, 0, 2);
        Due.is("shadows", probe.court.shade(3, 2), 4);
        probe.court.felon(0, 3, 2, 9);
        Due.is("by one", probe.court.tried(1, 0), 1);
    }

    // "in each third MINUTE alone (THE MINUTE modulo 3 is 0)"
    private static void inEachThirdMinuteAlone() {
        Probe probe = eastward("n(0=0)");
        probe.court.felon(0, 3, 2, 9);
        for (int minute = 0; minute < 10; minute++) {
            Due.is("minute " + minute, probe.court.minutes(1), minute % 3 == 0 ? 1 : 0);
        }
        Due.is("it is not away", probe.court.felonIs(0, 2), 0);
    }

    // "One that stands in the river then has drowned."
    private static void inTheRiverItDrowns() {
        Probe probe = eastward();
        probe.marketWith(2, "3.r6.");
        probe.court.felon(0, 3, 3, 9);
        Due.is("not yet", probe.court.felonIs(0, 3), 0);
        probe.court.minutes(1);
        Due.is("it serves", probe.court.felonIs(0, 1), 8);
        Due.is("it has drowned", probe.court.felonIs(0, 3), 1);
    }

    // The same, of one that then owes nothing.
    private static void itDrownsWithNothingLeft() {
        Probe probe = eastward();
        probe.marketWith(2, "3.r6.");
        probe.court.felon(0, 3, 3, 1);
        probe.court.minutes(1);
        Due.is("it owes nothing", probe.court.felonIs(0, 1), 0);
        Due.is("it has drowned", probe.court.felonIs(0, 3), 1);
    }

    // The same, in a MINUTE of the night in which OWED is not less.
    private static void itDrownsAtNight() {
        Probe probe = eastward("n(0=0)");
        probe.court.minutes(1);
        probe.marketWith(2, "3.r6.");
        probe.court.felon(0, 3, 3, 5);
        probe.court.minutes(1);
        Due.is("it owes as much", probe.court.felonIs(0, 1), 5);
        Due.is("it has drowned", probe.court.felonIs(0, 3), 1);
    }

    // "stands in the river": not who goes through it
    private static void throughTheRiverItDoesNot() {
        Probe probe = eastward();
        probe.marketWith(3, "0r");
        probe.court.felon(0, 3, 4, 9);
        probe.court.minutes(1);
        Due.is("it is there", probe.court.felonIs(0, 0), 23);
        Due.is("it has not drowned", probe.court.felonIs(0, 3), 0);
    }

    // "THE MINUTE is one more"
    private static void theMinuteIsOneMore() {
        ShadowCourt court = new ShadowCourt();
        Due.is("at first", court.count(0), 0);
        court.minutes(1);
        Due.is("behind one", court.count(0), 1);
        court.minutes(120);
        Due.is("behind 121", court.count(0), 121);
    }

    // "(9999 at most: then none goes by)"
    private static void none9999() {
        Probe probe = eastward();
        probe.walk(0, "2n");
        probe.goTo(9998);
        probe.court.judge(0, 2, 2);
        probe.walk(0, "2n");
        probe.court.felon(0, 3, 3, 9);
        Due.is("the last one", probe.court.minutes(1), 1);
        int x = probe.court.count(7);
        Due.is("the minute", probe.court.count(0), 9999);
        Due.is("none", probe.court.minutes(1), 0);
        Due.is("none of 120", probe.court.minutes(120), 0);
        Due.is("the minute", probe.court.count(0), 9999);
        Due.is("no draw", probe.court.count(7), x);
        Due.is("no step", probe.court.count(20), 1);
        Due.is("the judge", probe.court.count(10), 32);
        Due.is("nobody is away", probe.court.felonIs(0, 2), 0);
    }

    // promise 9: "MINUTES (1 to 120)", "NONE: no such n"
    private static void minutesOfNoSuchN() {
        ShadowCourt court = new ShadowCourt();
        int[] wrong = {0, -1, 121, Integer.MIN_VALUE, Integer.MAX_VALUE};
        for (int n : wrong) {
            Due.is("minutes(" + n + ")", court.minutes(n), -1);
            Due.is("the minute", court.count(0), 0);
            Due.is("X", court.count(7), 1);
        }
        Due.is("minutes(1)", court.minutes(1), 0);
        Due.is("minutes(120)", court.minutes(120), 0);
        Due.is("the minute", court.count(0), 121);
    }

    // promise 9: "(as many as can)"
    private static void minutesAsManyAsCan() {
        Probe probe = eastward();
        probe.goTo(9950);
        probe.court.felon(0, 3, 2, 999);
        Due.is("49 of 120", probe.court.minutes(120), 49);
        Due.is("the minute", probe.court.count(0), 9999);
    }

    // promise 9: "how much less is OWED": by all, told that have drowned, too
    private static void minutesHowMuchLess() {
        Probe probe = eastward();
        probe.marketWith(2, "3.r6.");
        probe.court.felon(0, 3, 3, 5);
        probe.court.felon(9, 4, 3, 1);
        probe.court.felon(5, 9, 9, 7);
        Due.is("two serve", probe.court.minutes(1), 2);
        Due.is("nobody", probe.court.minutes(120), 0);
    }

    // promise 10: "MINUTES (1 to 120 ..)", "NONE: no such ones"
    private static void triedOfNoSuchN() {
        ShadowCourt court = new ShadowCourt();
        int[] wrong = {0, -1, 121, Integer.MIN_VALUE, Integer.MAX_VALUE};
        for (int n : wrong) {
            Due.is("tried(" + n + ", 0)", court.tried(n, 0), -1);
        }
        Due.is("tried(1, 0)", court.tried(1, 0), 0);
        Due.is("tried(120, 0)", court.tried(120, 0), 0);
    }

    // promise 10: "NONE: no such ones": what
    private static void triedOfNoSuchWhat() {
        Probe probe = eastward();
        probe.court.judge(1, 9, 9);
        for (int f = 0; f < 10; f++) {
            probe.court.felon(f, 9, 9, 0);
        }
        int[] wrong = {-1, 6, 7, 8, 9, 32, 33, 40, 100, Integer.MIN_VALUE, Integer.MAX_VALUE};
        for (int what : wrong) {
            Due.is("tried(1, " + what + ")", probe.court.tried(1, what), -1);
        }
        int[] whats = {0, 5, 10, 19, 20, 29, 30, 31};
        int[] want = {0, 10, 99, 99, 0, 0, 22, 99};
        for (int i = 0; i < whats.length; i++) {
            Due.is("tried(1, " + whats[i] + ")", probe.court.tried(1, whats[i]), want[i]);
        }
    }

    // "10 + f the spot of told FELON f then, 20 + f what it OWES then"
    private static void triedOfFelonsNotTold() {
        for (int f = 0; f < 10; f++) {
            Probe probe = new Probe();
            probe.court.felon(f, f, 9, 90 + f);
            for (int other = 0; other < 10; other++) {
                Due.is("spot of " + other, probe.court.tried(1, 10 + other), other == f ? 90 + f : -1);
                Due.is("owed by " + other, probe.court.tried(1, 20 + other), other == f ? 90 + f : -1);
            }
        }
    }

    // "30 + j the spot of told JUDGE j then"
    private static void triedOfJudgesNotTold() {
        Probe probe = new Probe();
        Due.is("judge 0", probe.court.tried(1, 30), -1);
        Due.is("judge 1", probe.court.tried(1, 31), -1);
        probe.court.judge(1, 4, 4);
        Due.is("judge 0", probe.court.tried(1, 30), -1);
        Due.is("judge 1", probe.court.tried(1, 31), 44);
    }

    // promise 10: "(1 to 120; as many as can)"
    private static void triedAsManyAsCan() {
        Probe probe = eastward("c10(0=0)");
        probe.goTo(9990);
        probe.court.felon(0, 3, 2, 999);
        Due.is("cloudy minutes", probe.court.tried(120, 3), 9);
        Due.is("how often away", probe.court.tried(120, 1), 9);
        probe.goTo(9999);
        Due.is("none", probe.court.tried(1, 3), 0);
        Due.is("a spot", probe.court.tried(1, 10), 23);
    }

    // "TRIED are n MINUTES": what is counted is counted in them alone
    private static void triedCountsAnew() {
        Probe probe = eastward("c10(t=0)");
        probe.court.felon(0, 3, 3, 99);
        probe.court.felon(1, 9, 9, 99);
        probe.court.minutes(2);
        Due.is("away", probe.court.felonIs(1, 2), 2);
        Due.is("how much less", probe.court.tried(1, 0), 1);
        Due.is("how often away", probe.court.tried(1, 1), 1);
        Due.is("cloudy minutes", probe.court.tried(1, 3), 0);
        Due.is("steps", probe.court.tried(1, 4), 0);
        Due.is("and once more", probe.court.tried(2, 1), 2);
    }

    // "1 how often FELONS are AWAY": all of them, each time
    private static void triedHowOftenAway() {
        Probe probe = new Probe();
        for (int f = 0; f < 10; f++) {
            probe.court.felon(f, 5, 5, f);
        }
        Due.is("nine, once", probe.court.tried(1, 1), 9);
        Due.is("nine, ten times", probe.court.tried(10, 1), 90);
    }

    // "2 FELONS that have drowned then": those of before, too
    private static void triedWhoHasDrownedThen() {
        for (int f = 0; f < 10; f++) {
            Probe probe = eastward();
            probe.marketWith(2, "3.r6.");
            probe.court.felon(f, 3, 3, 9);
            Due.is("felon " + f + " will", probe.court.tried(1, 2), 1);
            probe.court.minutes(1);
            Due.is("felon " + f + " has", probe.court.tried(1, 2), 1);
            probe.court.felon((f + 1) % 10, 3, 3, 9);
            Due.is("one more will", probe.court.tried(1, 2), 2);
        }
    }

    // "5 FELONS that OWE nothing then": told ones, those of before, too
    private static void triedWhoOwesNothingThen() {
        Probe probe = eastward();
        Due.is("nobody is told", probe.court.tried(1, 5), 0);
        for (int f = 0; f < 10; f++) {
            probe = eastward();
            probe.court.felon(f, 3, 2, 1);
            Due.is("felon " + f + " will", probe.court.tried(1, 5), 1);
            probe.court.minutes(1);
            Due.is("felon " + f + " does", probe.court.tried(1, 5), 1);
        }
    }

    // "that are tried": nothing is changed by it
    private static void triedChangesNothing() {
        Probe probe = eastward("c3(0=0)");
        probe.walk(0, "9n");
        probe.court.felon(0, 3, 3, 99);
        probe.court.felon(9, 9, 9, 99);
        Picture before = new Picture(probe.court);
        probe.court.tried(120, 0);
        before.isStill("behind tried", probe.court);
    }
}
