import java.util.Arrays;

/** The sentences that name an edge: promises 2, 19, 20, 21, 26 (feed, prints, cloudy, together, check), one test each. */
public final class TapeEdgesTest {
    private static final int LEAST = Integer.MIN_VALUE;
    private static final int GREATEST = Integer.MAX_VALUE;

    public static void main(String[] args) {
        feedTwentyBytes();
        feedTheHighestFirst();
        feedBehindTheTape();
        feedAtMost260();
        printsOfNoSuchN();
        printsOfNoSuchWhat();
        printsAsManyAsTheTapeHas();
        printsTapeIsEmptyThen();
        printsTapeStaysBehindNone();
        printsNoSuchSpots();
        printsNoFelonIsTold();
        printsFailForNone();
        printsFailAtOnce();
        printsFailAtTheLast();
        printsOfTheBestOne();
        printsAtMostThreeSteps();
        printsTheFirstLikewise();
        printsNotThroughWalls();
        printsNotThroughTheRiver();
        printsNotAroundTheMarketsEnd();
        printsOfEachFelon();
        printsOfWhoNeedNotServe();
        cloudyOfNoSuchN();
        cloudyOfNoSuchServed();
        cloudyOfNoSuchWhat();
        cloudyAsManyAsTheTapeHas();
        cloudyTapeIsEmptyThen();
        cloudyTapeStaysBehindNone();
        cloudyByteOutOfBounds();
        cloudyNoneFits();
        cloudyAllAndNoMinute();
        cloudyTheFirst();
        cloudySurely();
        cloudyTenMinutes();
        togetherOfNoSuchN();
        togetherOfNoSuchWhat();
        togetherAsManyAsTheTapeHas();
        togetherAskedForMAsItIs();
        togetherTapeIsEmptyThen();
        togetherTapeStaysBehindNone();
        togetherMAbove12();
        togetherAPlaceBeyond();
        togetherNoTwos();
        togetherATwoOfOne();
        togetherTwosThatHangTogether();
        togetherTwoBytesEach();
        togetherEightSentences();
        checkOfNoSuchN();
        checkOfNone();
        checkAsManyAsTheTapeHas();
        checkTapeIsEmptyThen();
        checkTapeStays();
        checkOfFelonsNotTold();
        checkTheFirstThatIsNotSo();
        checkFourBytesEach();
        checkAllTen();
        Due.end("TapeEdgesTest");
    }

    // "Twenty bytes come behind the tape .. how many it has"
    private static void feedTwentyBytes() {
        ShadowCourt court = new ShadowCourt();
        Due.is("at first", court.count(6), 0);
        Due.is("twenty", court.feed(0, 0, 0, 0, 0), 20);
        Due.is("forty", court.feed(-1, LEAST, GREATEST, 1, 0), 40);
        Due.is("the tape", court.count(6), 40);
    }

    // "the highest of each int first"
    private static void feedTheHighestFirst() {
        Probe probe = new Probe();
        probe.court.judge(0, 5, 5);
        probe.court.feed(('n' << 24) + ('e' << 16) + ('s' << 8) + 'w', '.' << 24, 0, 0, 0);
        Due.is("n e s w .", probe.court.walk(0, 5), 5);
        int[] spots = {65, 66, 56, 55, 55};
        for (int i = 0; i < spots.length; i++) {
            Due.is("behind step " + (i + 1), probe.court.tried(i + 1, 30), spots[i]);
        }
        probe.court.feed(0x80ff7f01, 0, 0, 0, 0);
        Due.is("a byte above 127", probe.court.cloudy(1, 1, 0), -3);
    }

    // "come behind the tape"
    private static void feedBehindTheTape() {
        Probe probe = new Probe();
        probe.court.feed(1, 0, 0, 0, 2);
        probe.court.feed(3, 0, 0, 0, 4);
        probe.court.felon(0, 5, 5, 1);
        probe.court.felon(4, 5, 5, 2);
        probe.court.felon(5, 5, 5, 3);
        probe.court.felon(9, 5, 5, 4);
        Due.is("all of it", probe.court.check(10), -1);
    }

    // "NONE if that would be more than 260"
    private static void feedAtMost260() {
        ShadowCourt court = new ShadowCourt();
        for (int i = 1; i <= 13; i++) {
            Due.is("feed " + i, court.feed(i, 0, 0, 0, 0), 20 * i);
        }
        for (int i = 0; i < 3; i++) {
            Due.is("one more", court.feed(9, 9, 9, 9, 9), -1);
            Due.is("the tape", court.count(6), 260);
        }
        court.felon(0, 5, 5, 1);
        Due.is("what it holds", court.check(1), -1);
        Due.is("there is room again", court.feed(0, 0, 0, 0, 0), 20);
    }

    private static void prints(String what, Probe probe, int felons, int minute, int... spots) {
        Due.is(what + ", felons", probe.prints(0, spots), felons);
        Due.is(what + ", the minute", probe.prints(1, spots), minute);
    }

    private static Probe felonAt(int x, int y) {
        Probe probe = new Probe();
        probe.court.felon(0, x, y, 5);
        return probe;
    }

    // "(spots; n 2 to 20 ..)"
    private static void printsOfNoSuchN() {
        Probe probe = felonAt(0, 0);
        probe.feed(new int[40]);
        int[] wrong = {-1, 0, 1, 21, LEAST, GREATEST};
        for (int n : wrong) {
            Due.is("n " + n, probe.court.prints(n, 0), -1);
            Due.is("n " + n, probe.court.prints(n, 1), -1);
        }
        Due.is("n 20", probe.court.prints(20, 0), 1);
        Due.is("n 2", probe.prints(0, 0, 0), 1);
    }

    // promise 19: "NONE: no such ones": of what
    private static void printsOfNoSuchWhat() {
        Probe probe = felonAt(0, 0);
        probe.feed(new int[20]);
        int[] wrong = {-1, 2, LEAST, GREATEST};
        for (int what : wrong) {
            Due.is("what " + what, probe.court.prints(2, what), -1);
        }
        Due.is("what 1", probe.court.prints(2, 1), -2);
    }

    // promise 19: "it has not so many"
    private static void printsAsManyAsTheTapeHas() {
        Probe probe = felonAt(0, 0);
        Due.is("two of none", probe.court.prints(2, 0), -1);
        probe.feed(new int[20]);
        Due.is("twenty of twenty", probe.court.prints(20, 0), 1);
        Due.is("twenty of none", probe.court.prints(20, 0), -1);
    }

    // "(.. empty then)": whatever it answers but NONE
    private static void printsTapeIsEmptyThen() {
        int[][] spots = {{0, 0}, {99, 99}, {0, 100}};
        for (int[] row : spots) {
            for (int what = 0; what < 2; what++) {
                Probe probe = felonAt(0, 0);
                probe.prints(what, row);
                Due.is("the tape behind " + row[1] + ", " + what, probe.court.count(6), 0);
                probe = new Probe();
                probe.prints(what, row);
                Due.is("the same, none is told", probe.court.count(6), 0);
            }
        }
    }

    // "NONE: .. (the tape stays)"
    private static void printsTapeStaysBehindNone() {
        Probe probe = felonAt(1, 1);
        probe.feed(11, 12);
        probe.court.prints(1, 0);
        probe.court.prints(21, 0);
        probe.court.prints(2, 2);
        Due.is("the tape", probe.court.count(6), 20);
        Due.is("what it holds", probe.court.prints(2, 0), 1);
    }

    // "-3: no such spots"
    private static void printsNoSuchSpots() {
        Probe probe = felonAt(9, 9);
        prints("spot 99", probe, 1, -2, 99, 99);
        prints("spot 100, the first", probe, -3, -3, 100, 99);
        prints("spot 100, the last", probe, -3, -3, 99, 100);
        prints("spot 255", probe, -3, -3, 99, 99, 255, 99);
        prints("spot 128", probe, -3, -3, 128, 128);
        int[] twenty = new int[20];
        twenty[19] = 100;
        prints("the twentieth", probe, -3, -3, twenty);
        probe.feed(99, 99, 100);
        Due.is("behind the n bytes", probe.court.prints(2, 0), 1);
        prints("spot 100, none is told", new Probe(), -3, -3, 100, 99);
    }

    // "-4 (of 1): no FELON is told"
    private static void printsNoFelonIsTold() {
        prints("none is told", new Probe(), 0, -4, 0, 0);
        prints("they fail, too", new Probe(), 0, -4, 0, 99);
        Probe probe = felonAt(0, 0);
        probe.marketWith(0, "#9.");
        prints("told no more", probe, 0, -4, 1, 1);
    }

    // "-2 (of 1): it fails for none of them all"
    private static void printsFailForNone() {
        Probe probe = felonAt(5, 5);
        prints("where it is", probe, 1, -2, 55, 55);
        prints("three steps, three steps", probe, 1, -2, 58, 88);
    }

    // "the MINUTE (0 on) at which it fails"
    private static void printsFailAtOnce() {
        Probe probe = felonAt(5, 5);
        prints("the first is too far", probe, 0, 0, 59, 59);
        prints("the second", probe, 0, 1, 55, 59);
        prints("the third", probe, 0, 2, 55, 58, 99);
        prints("the first, and the second, too", probe, 0, 0, 59, 0);
    }

    // The same, of the last one of twenty.
    private static void printsFailAtTheLast() {
        int[] twenty = new int[20];
        Probe probe = felonAt(0, 0);
        prints("twenty", probe, 1, -2, twenty);
        twenty[19] = 4;
        prints("the last fails", probe, 0, 19, twenty);
        twenty[19] = 3;
        prints("it does not", probe, 1, -2, twenty);
        twenty[0] = 4;
        prints("the first fails", probe, 0, 0, twenty);
    }

    // "for the best one"
    private static void printsOfTheBestOne() {
        Probe probe = felonAt(0, 0);
        probe.court.felon(9, 9, 9, 5);
        prints("felon 9 alone", probe, 512, -2, 99, 98);
        prints("felon 0 alone", probe, 1, -2, 0, 1);
        prints("felon 9 fails later", probe, 0, 1, 99, 0);
        prints("both fail at once", probe, 0, 0, 50, 50);
        probe.court.felon(9, 1, 1, 5);
        prints("both", probe, 513, -2, 1, 2);
    }

    // "each next one by a walk of at most 3 STEPS"
    private static void printsAtMostThreeSteps() {
        Probe probe = felonAt(5, 5);
        int[] near = {55, 56, 57, 58, 65, 66, 67, 75, 76, 85, 54, 53, 52, 45, 35, 25, 46, 47, 36, 64, 44};
        for (int spot : near) {
            prints("to " + spot, probe, 1, -2, 55, spot);
        }
        int[] far = {59, 68, 77, 86, 95, 51, 15, 48, 37, 26, 73, 33};
        for (int spot : far) {
            prints("to " + spot, probe, 0, 1, 55, spot);
        }
    }

    // "the first likewise from where it is now"
    private static void printsTheFirstLikewise() {
        Probe probe = felonAt(5, 5);
        prints("three steps", probe, 1, -2, 76, 76);
        prints("four steps", probe, 0, 0, 77, 77);
        probe.law("a2(0=0);l1(0=0);v3(0=0)");
        probe.court.judge(0, 5, 6);
        probe.court.minutes(1);
        Due.is("it has gone", probe.court.felonIs(0, 0), 66);
        prints("from where it is now", probe, 1, -2, 77, 77);
    }

    // "(4 ways, no walls ..)"
    private static void printsNotThroughWalls() {
        Probe probe = felonAt(5, 5);
        probe.marketWith(6, "0#");
        prints("walls all along", probe, 0, 0, 75, 75);
        prints("a wall itself", probe, 0, 0, 65, 65);
        probe.marketWith(6, "5.#4.");
        prints("around it, to 75 it is four", probe, 0, 0, 75, 75);
        prints("around it, to 76 it is three", probe, 1, -2, 76, 76);
        prints("into it", probe, 0, 1, 55, 65);
    }

    // "(.. no river)"
    private static void printsNotThroughTheRiver() {
        Probe probe = felonAt(5, 5);
        probe.marketWith(6, "0r");
        prints("the river all along", probe, 0, 0, 75, 75);
        prints("into it", probe, 0, 1, 55, 65);
        probe.marketWith(6, "0s");
        prints("over stairs", probe, 1, -2, 75, 75);
    }

    // The market's end is an end: a row does not lead on to the next one.
    private static void printsNotAroundTheMarketsEnd() {
        prints("from 49 to 50", felonAt(9, 4), 0, 1, 49, 50);
        prints("from 50 to 49", felonAt(0, 5), 0, 1, 50, 49);
        prints("from 0 to 90", felonAt(0, 0), 0, 1, 0, 90);
    }

    // "FELONS (bits)"
    private static void printsOfEachFelon() {
        Probe probe = new Probe();
        for (int f = 0; f < 10; f++) {
            probe.court.felon(f, f, 0, 5);
        }
        for (int f = 0; f < 10; f++) {
            int bits = 0;
            for (int other = Math.max(f - 3, 0); other <= Math.min(f + 3, 9); other++) {
                bits |= 1 << other;
            }
            prints("at felon " + f, probe, bits, -2, f, f);
        }
    }

    // "FELONS": told ones, whatever they OWE; who has drowned is in the river
    private static void printsOfWhoNeedNotServe() {
        Probe probe = new Probe();
        probe.court.felon(4, 5, 5, 0);
        prints("it owes nothing", probe, 16, -2, 55, 56);
        probe.marketWith(5, "6.r3.");
        probe.law("a2(0=0);l1(0=0);v3(0=0)");
        probe.court.judge(0, 5, 5);
        probe.court.felon(5, 6, 6, 5);
        probe.court.minutes(1);
        Due.is("it has drowned", probe.court.felonIs(5, 3), 1);
        prints("out of the river", probe, 32, -2, 57, 57);
        probe.court.felon(4, 0, 0, 0);
        prints("it alone", probe, 32, -2, 57, 57);
    }

    private static void cloudy(Probe probe, int served, int sets, int lowest, int sure, int... minutes) {
        String what = "served " + served + " of " + Arrays.toString(minutes);
        Due.is(what + ", sets", probe.cloudy(served, 0, minutes), sets);
        Due.is(what + ", the first", probe.cloudy(served, 1, minutes), lowest);
        Due.is(what + ", surely", probe.cloudy(served, 2, minutes), sure);
    }

    // "(1 to 9 each; n 1 to 10 ..)": n
    private static void cloudyOfNoSuchN() {
        Probe probe = new Probe();
        int[] ones = new int[20];
        Arrays.fill(ones, 1);
        probe.feed(ones);
        int[] wrong = {-1, 0, 11, LEAST, GREATEST};
        for (int n : wrong) {
            Due.is("n " + n, probe.court.cloudy(n, 1, 0), -1);
        }
        Due.is("n 10", probe.court.cloudy(10, 1, 0), 10);
        Due.is("n 1", probe.cloudy(1, 0, 1), 1);
    }

    // "served (0 to 90)"
    private static void cloudyOfNoSuchServed() {
        Probe probe = new Probe();
        probe.feed(9, 9, 9, 9, 9, 9, 9, 9, 9, 9);
        int[] wrong = {-1, 91, LEAST, GREATEST};
        for (int served : wrong) {
            Due.is("served " + served, probe.court.cloudy(10, served, 0), -1);
        }
        Due.is("served 90", probe.court.cloudy(10, 90, 0), 1);
        cloudy(probe, 0, 1, 1023, 1023, 9, 9, 9, 9, 9, 9, 9, 9, 9, 9);
    }

    // promise 20: "NONE: no such ones": of what
    private static void cloudyOfNoSuchWhat() {
        Probe probe = new Probe();
        probe.feed(1);
        int[] wrong = {-1, 3, LEAST, GREATEST};
        for (int what : wrong) {
            Due.is("what " + what, probe.court.cloudy(1, 1, what), -1);
        }
        Due.is("what 2", probe.court.cloudy(1, 0, 2), 1);
    }

    // promise 20: "it has not so many"
    private static void cloudyAsManyAsTheTapeHas() {
        Probe probe = new Probe();
        Due.is("one of none", probe.court.cloudy(1, 1, 0), -1);
        Due.is("ten of none", probe.court.cloudy(10, 1, 0), -1);
        Due.is("one of twenty", probe.cloudy(1, 0, 1), 1);
    }

    // "(.. empty then)": whatever it answers but NONE
    private static void cloudyTapeIsEmptyThen() {
        Probe probe = new Probe();
        int[][] rows = {{1, 2}, {9, 9}, {0, 1}};
        for (int[] row : rows) {
            for (int what = 0; what < 3; what++) {
                probe.cloudy(1, what, row);
                Due.is("the tape behind " + row[0] + ", " + what, probe.court.count(6), 0);
            }
        }
    }

    // "NONE: .. (the tape stays)"
    private static void cloudyTapeStaysBehindNone() {
        Probe probe = new Probe();
        probe.feed(3, 2, 1);
        probe.court.cloudy(0, 3, 0);
        probe.court.cloudy(3, 91, 0);
        probe.court.cloudy(3, 3, 3);
        Due.is("the tape", probe.court.count(6), 20);
        Due.is("what it holds", probe.court.cloudy(3, 3, 0), 2);
    }

    // "-3: a byte out of bounds"
    private static void cloudyByteOutOfBounds() {
        Probe probe = new Probe();
        int[] wrong = {0, 10, 127, 128, 255};
        for (int minute : wrong) {
            cloudy(probe, 1, -3, -3, -3, minute, 1);
            cloudy(probe, 1, -3, -3, -3, 1, minute);
        }
        cloudy(probe, 1, 1, 2, 2, 1, 9);
        probe.feed(1, 9, 10);
        Due.is("behind the n bytes", probe.court.cloudy(2, 1, 0), 1);
    }

    // "1 the first (-2: none), 2 those that were surely cloudy (-2: none fits)"
    private static void cloudyNoneFits() {
        Probe probe = new Probe();
        cloudy(probe, 1, 0, -2, -2, 2);
        cloudy(probe, 3, 0, -2, -2, 2);
        cloudy(probe, 90, 0, -2, -2, 9, 9, 9, 9, 9, 9, 9, 9, 9, 8);
        cloudy(probe, 7, 0, -2, -2, 3, 2, 1);
    }

    // "sets of cloudy MINUTES": no MINUTE, and all of them
    private static void cloudyAllAndNoMinute() {
        Probe probe = new Probe();
        cloudy(probe, 0, 1, 1, 1, 5);
        cloudy(probe, 5, 1, 0, 0, 5);
        cloudy(probe, 0, 1, 7, 7, 3, 2, 1);
        cloudy(probe, 6, 1, 0, 0, 3, 2, 1);
    }

    // "the first (bits)"
    private static void cloudyTheFirst() {
        Probe probe = new Probe();
        cloudy(probe, 3, 2, 1, 0, 3, 2, 1);
        cloudy(probe, 2, 3, 3, 0, 2, 2, 2);
        cloudy(probe, 2, 2, 2, 0, 1, 2, 1);
    }

    // "MINUTES that were surely cloudy (bits)"
    private static void cloudySurely() {
        Probe probe = new Probe();
        cloudy(probe, 5, 1, 4, 4, 3, 2, 1);
        cloudy(probe, 1, 2, 3, 1, 5, 1, 1);
        cloudy(probe, 1, 2, 5, 4, 1, 1, 5);
    }

    // "MINUTES (1 to 10)": all ten
    private static void cloudyTenMinutes() {
        Probe probe = new Probe();
        cloudy(probe, 1, 10, 511, 0, 1, 1, 1, 1, 1, 1, 1, 1, 1, 1);
        cloudy(probe, 9, 2, 511, 0, 1, 1, 1, 1, 1, 1, 1, 1, 1, 9);
        cloudy(probe, 81, 10, 1, 0, 9, 9, 9, 9, 9, 9, 9, 9, 9, 9);
    }

    private static void together(Probe probe, int n, int all, int groups, int longest, int... bytes) {
        String what = n + " of " + Arrays.toString(bytes);
        Due.is(what + ", all", probe.together(n, 0, bytes), all);
        Due.is(what + ", groups", probe.together(n, 1, bytes), groups);
        Due.is(what + ", the longest", probe.together(n, 2, bytes), longest);
    }

    // "n 1 to 8", "NONE: no such n"
    private static void togetherOfNoSuchN() {
        Probe probe = new Probe();
        probe.feed(new int[60]);
        int[] wrong = {-1, 0, 9, 10, LEAST, GREATEST};
        for (int n : wrong) {
            for (int what = 0; what < 3; what++) {
                Due.is("n " + n, probe.court.together(n, what), -1);
            }
        }
        Due.is("n 8", probe.court.together(8, 1), 8);
        Due.is("n 1", probe.together(1, 1, new int[20]), 1);
    }

    // promise 21: what 0, 1, 2 alone
    private static void togetherOfNoSuchWhat() {
        Probe probe = new Probe();
        probe.feed(new int[20]);
        int[] wrong = {-1, 3, LEAST, GREATEST};
        for (int what : wrong) {
            Due.is("what " + what, probe.court.together(1, what), -1);
        }
        Due.is("the tape", probe.court.count(6), 20);
    }

    // "it has not so many": 2 n + 1 + 2 m
    private static void togetherAsManyAsTheTapeHas() {
        Probe probe = new Probe();
        for (int n = 1; n <= 8; n++) {
            Due.is("none for " + n, probe.court.together(n, 0), -1);
        }
        for (int n = 1; n <= 8; n++) {
            for (int m = 0; m <= 12; m++) {
                int[] bytes = new int[20];
                bytes[2 * n] = m;
                int want = 2 * n + 1 + 2 * m > 20 ? -1 : n;
                Due.is(m + " twos of " + n, probe.together(n, 1, bytes), want);
                Due.is("the tape", probe.court.count(6), want == -1 ? 20 : 0);
            }
        }
    }

    // "(.. asked for m as it is there)": above 12, too
    private static void togetherAskedForMAsItIs() {
        Probe probe = new Probe();
        int[] bytes = new int[20];
        bytes[2] = 13;
        Due.is("13 twos, 20 bytes", probe.together(1, 0, bytes), -1);
        Due.is("the tape", probe.court.count(6), 20);
        bytes = new int[260];
        bytes[2] = 128;
        Due.is("128 twos, 260 bytes", probe.together(1, 0, bytes), -2);
        bytes[2] = 129;
        Due.is("129 twos, 260 bytes", probe.together(1, 0, bytes), -1);
        bytes[2] = 255;
        Due.is("255 twos, 260 bytes", probe.together(1, 0, bytes), -1);
        Due.is("the tape", probe.court.count(6), 260);
    }

    // "(.. empty then)": whatever it answers but NONE
    private static void togetherTapeIsEmptyThen() {
        Probe probe = new Probe();
        probe.together(1, 0, new int[60]);
        Due.is("right", probe.court.count(6), 0);
        int[] bytes = new int[60];
        bytes[2] = 13;
        Due.is("13 twos", probe.together(1, 0, bytes), -2);
        Due.is("the tape", probe.court.count(6), 0);
        Due.is("a place beyond", probe.together(1, 0, 0, 1, 1, 1, 0), -2);
        Due.is("the tape", probe.court.count(6), 0);
    }

    // "NONE: .. (the tape stays ..)"
    private static void togetherTapeStaysBehindNone() {
        Probe probe = new Probe();
        probe.feed(0, 7, 0);
        probe.court.together(0, 0);
        probe.court.together(9, 0);
        probe.court.together(1, 3);
        Due.is("the tape", probe.court.count(6), 20);
        Due.is("what it holds", probe.court.together(1, 0), 7);
    }

    // "-2: .. (m above 12 ..)"
    private static void togetherMAbove12() {
        Probe probe = new Probe();
        int[] bytes = new int[40];
        bytes[1] = 7;
        bytes[2] = 12;
        Due.is("12", probe.together(1, 0, bytes), 7);
        bytes[2] = 13;
        for (int what = 0; what < 3; what++) {
            Due.is("13, what " + what, probe.together(1, what, bytes), -2);
        }
    }

    // "-2: .. (.. a place beyond n)"
    private static void togetherAPlaceBeyond() {
        for (int n = 1; n <= 8; n++) {
            for (int place = n - 1; place <= n + 1; place++) {
                int[] bytes = new int[2 * n + 3];
                bytes[2 * n] = 1;
                bytes[2 * n + 1] = place;
                int want = place < n ? n - (place == 0 ? 0 : 1) : -2;
                Due.is("place " + place + " of " + n + ", ahead", new Probe().together(n, 1, bytes), want);
                bytes[2 * n + 1] = 0;
                bytes[2 * n + 2] = place;
                Due.is("place " + place + " of " + n + ", behind", new Probe().together(n, 1, bytes), want);
            }
        }
        Due.is("place 255", new Probe().together(1, 0, 0, 7, 1, 0, 255), -2);
        Due.is("in the last of twos", new Probe().together(2, 0, 0, 7, 0, 7, 2, 0, 1, 1, 2), -2);
        Due.is("behind the twos", new Probe().together(1, 0, 0, 7, 1, 0, 0, 9, 9), 7);
    }

    // "told twos": none of them
    private static void togetherNoTwos() {
        together(new Probe(), 1, 7, 1, 7, 0, 7, 0);
        together(new Probe(), 3, 12, 3, 5, 0, 3, 0, 4, 0, 5, 0);
    }

    // "twos of places": of one and the same place
    private static void togetherATwoOfOne() {
        together(new Probe(), 1, 7, 1, 7, 0, 7, 1, 0, 0);
        together(new Probe(), 2, 15, 2, 8, 0, 7, 0, 8, 2, 1, 1, 0, 0);
        together(new Probe(), 2, 8, 1, 8, 0, 7, 0, 8, 3, 0, 1, 1, 0, 0, 1);
    }

    // "groups that hang together": by others, too
    private static void togetherTwosThatHangTogether() {
        together(new Probe(), 4, 9, 1, 9, 0, 9, 0, 8, 0, 7, 0, 6, 3, 0, 1, 2, 3, 1, 2);
        together(new Probe(), 4, 9, 1, 9, 0, 6, 0, 9, 0, 7, 0, 8, 3, 3, 2, 2, 1, 1, 0);
        together(new Probe(), 4, 17, 2, 9, 0, 9, 0, 8, 0, 7, 0, 6, 2, 0, 2, 3, 1);
    }

    // "n SENTENCES of two bytes"
    private static void togetherTwoBytesEach() {
        together(new Probe(), 1, 0, 1, 0, 0, 0, 0);
        together(new Probe(), 1, 255, 1, 255, 0, 255, 0);
        together(new Probe(), 1, 256, 1, 256, 1, 0, 0);
        together(new Probe(), 1, 65535, 1, 65535, 255, 255, 0);
        together(new Probe(), 2, 256 + 255, 2, 256, 1, 0, 0, 255, 0);
    }

    // "SENTENCES (1 to 8 ..)": all eight
    private static void togetherEightSentences() {
        int[] bytes = new int[17];
        Arrays.fill(bytes, 0, 16, 255);
        together(new Probe(), 8, 8 * 65535, 8, 65535, bytes);
        together(new Probe(), 8, 8, 1, 8, 0, 1, 0, 2, 0, 3, 0, 4, 0, 5, 0, 6, 0, 7, 0, 8,
            7, 0, 1, 2, 3, 4, 5, 6, 7, 0, 7, 2, 4, 5, 0);
    }

    // "(0 to 10 ..)", "-2: no such n"
    private static void checkOfNoSuchN() {
        ShadowCourt court = new ShadowCourt();
        for (int i = 0; i < 3; i++) {
            court.feed(0, 0, 0, 0, 0);
        }
        int[] wrong = {-1, 11, 12, LEAST, GREATEST};
        for (int n : wrong) {
            Due.is("n " + n, court.check(n), -2);
        }
        Due.is("n 10", court.check(10), -1);
    }

    // "the first n numbers (0 ..": none
    private static void checkOfNone() {
        Probe probe = new Probe();
        Due.is("an empty tape", probe.court.check(0), -1);
        probe.court.felon(0, 5, 5, 5);
        probe.court.feed(1, 2, 3, 4, 5);
        Due.is("nothing is asked", probe.court.check(0), -1);
        Due.is("the tape", probe.court.count(6), 0);
    }

    // "-2: .. it has not so many"
    private static void checkAsManyAsTheTapeHas() {
        Probe probe = new Probe();
        Due.is("one of none", probe.court.check(1), -2);
        probe.court.feed(0, 0, 0, 0, 0);
        Due.is("six of five", probe.court.check(6), -2);
        Due.is("five of five", probe.court.check(5), -1);
        probe.court.feed(0, 0, 0, 0, 0);
        probe.court.feed(0, 0, 0, 0, 0);
        Due.is("ten of ten", probe.court.check(10), -1);
    }

    // "(.. empty then ..)"
    private static void checkTapeIsEmptyThen() {
        ShadowCourt court = new ShadowCourt();
        court.feed(0, 0, 0, 0, 0);
        court.feed(0, 0, 0, 0, 0);
        Due.is("right", court.check(1), -1);
        Due.is("the tape", court.count(6), 0);
        court.feed(1, 0, 0, 0, 0);
        Due.is("not so", court.check(1), 0);
        Due.is("the tape", court.count(6), 0);
    }

    // "-2: .. (the tape stays)"
    private static void checkTapeStays() {
        ShadowCourt court = new ShadowCourt();
        court.felon(4, 5, 5, 7);
        court.feed(0, 0, 0, 0, 7);
        court.check(-1);
        court.check(6);
        court.check(11);
        Due.is("the tape", court.count(6), 20);
        Due.is("what it holds", court.check(5), -1);
    }

    // "(.. of FELONS that are not told 0)"
    private static void checkOfFelonsNotTold() {
        Probe probe = new Probe();
        Due.is("none is told", probe.check(0, 0, 0), -1);
        Due.is("one is said to owe", probe.check(0, 1, 0), 1);
        probe.court.felon(1, 5, 5, 0);
        Due.is("it owes nothing", probe.check(0, 0, 0), -1);
        probe.court.felon(1, 5, 5, 9);
        probe.marketWith(5, "0#");
        Due.is("told no more", probe.check(0, 0, 0), -1);
    }

    // "else the place of the first number that is not so"
    private static void checkTheFirstThatIsNotSo() {
        for (int wrong = 0; wrong < 10; wrong++) {
            Probe probe = new Probe();
            int[] owed = new int[10];
            for (int f = 0; f < 10; f++) {
                probe.court.felon(f, 5, 5, 100 + f);
                owed[f] = f < wrong ? 100 + f : 7;
            }
            Due.is("from " + wrong + " on", probe.check(owed), wrong);
        }
    }

    // "four bytes each": all of them count
    private static void checkFourBytesEach() {
        Probe probe = new Probe();
        probe.court.felon(0, 5, 5, 999);
        Due.is("999", probe.check(999), -1);
        int[] others = {998, 1000, 999 + 256, 999 + 65536, 999 + (1 << 24), 999 + (1 << 31), -999, 0, 255};
        for (int other : others) {
            Due.is(other + " is not so", probe.check(other), 0);
        }
    }

    // "the first n numbers of the tape (.. 10 ..)"
    private static void checkAllTen() {
        Probe probe = new Probe();
        int[] owed = new int[10];
        for (int f = 0; f < 10; f++) {
            owed[f] = 999 - f;
            probe.court.felon(f, 5, 5, owed[f]);
        }
        Due.is("right", probe.check(owed), -1);
        owed[9]++;
        Due.is("the last is not so", probe.check(owed), 9);
    }
}
