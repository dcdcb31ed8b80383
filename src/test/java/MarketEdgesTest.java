/** The sentences that name an edge: Terms, THE MARKET, and promise 3 (market), one test each. */
public final class MarketEdgesTest {
    private static final String ROW = "0./";
    private static final String NINE_ROWS = ROW.repeat(9);

    public static void main(String[] args) {
        allPlainAtFirst();
        numberIsTenYAndX();
        atLeastOneByte();
        atMost140Bytes();
        asManyAsTheTapeHas();
        tapeIsEmptyThen();
        tapeIsEmptyBehindAFault();
        tapeStaysBehindNone();
        tenRows();
        tenSpotsInARow();
        digitsTwoToNine();
        digitZeroIsTen();
        noOtherByteCanStand();
        theEndCanNotStandWhereASpotMust();
        rowEndsAheadOfItsTenthSpot();
        tooManyAtASpot();
        tooManyAtADigit();
        digitIsAskedAheadOfWhatFollows();
        firstFaultFromTheLeft();
        howManyAreNotPlain();
        inPlaceOfTheOneBefore();
        theOneBeforeStaysBehindAFault();
        judgesAreToldNoMore();
        felonsAreToldNoMore();
        drownedFelonsAreToldNoMore();
        lampsAreToldNoMore();
        stairsSendNobodyAway();
        nothingIsKeptAnyMore();
        Due.end("MarketEdgesTest");
    }

    private static void fault(String text, int want) {
        Due.is("market of " + text, new Probe().market(text), want);
    }

    // "each plain, a wall, stairs or river (all plain at first)"
    private static void allPlainAtFirst() {
        ShadowCourt court = new ShadowCourt();
        for (int spot = 0; spot < 100; spot++) {
            Due.is("spot " + spot, court.count(100 + spot), 0);
        }
    }

    // "10 by 10 spots (number: 10 y and x)", "10 ROWS (y 0 on) .. each of 10 spots (x 0 on)"
    private static void numberIsTenYAndX() {
        Probe probe = new Probe();
        probe.marketWith(0, "#9.", 7, "3.s5.r", 9, "9.#");
        Due.is("x 0, y 0", probe.court.count(100), 1);
        Due.is("x 3, y 7", probe.court.count(173), 2);
        Due.is("x 9, y 7", probe.court.count(179), 3);
        Due.is("x 9, y 9", probe.court.count(199), 1);
        Due.is("x 7, y 3", probe.court.count(137), 0);
    }

    // "the first n bytes of the tape (1 to 140 ..)": too few
    private static void atLeastOneByte() {
        Probe probe = new Probe();
        probe.feed(NINE_ROWS + "0.");
        Due.is("n 0", probe.court.market(0), -1);
        Due.is("n -1", probe.court.market(-1), -1);
        Due.is("least n", probe.court.market(Integer.MIN_VALUE), -1);
        Due.is("n 1", probe.court.market(1), -1001);
    }

    // "the first n bytes of the tape (1 to 140 ..)", "a TEXT of at most 140 bytes": too many
    private static void atMost140Bytes() {
        Probe probe = new Probe();
        probe.feed("........../".repeat(13));
        Due.is("n 141", probe.court.market(141), -1);
        Due.is("greatest n", probe.court.market(Integer.MAX_VALUE), -1);
        Due.is("n 140", probe.court.market(140), -1109);
    }

    // "NONE: .. it has not so many"
    private static void asManyAsTheTapeHas() {
        Probe probe = new Probe();
        Due.is("1 of none", probe.court.market(1), -1);
        probe.feed("........../" + "0./".repeat(8) + "6.3.s");
        Due.is("the tape", probe.court.count(6), 40);
        Due.is("41 of 40", probe.court.market(41), -1);
        Due.is("40 of 40", probe.court.market(40), 1);
    }

    // "(.. empty then)"
    private static void tapeIsEmptyThen() {
        Probe probe = new Probe();
        probe.feed(NINE_ROWS + "0." + "x".repeat(50));
        Due.is("bytes", probe.court.count(6), 80);
        Due.is("29 of them", probe.court.market(29), 0);
        Due.is("the tape", probe.court.count(6), 0);
    }

    // "(.. empty then) .. a FAULT"
    private static void tapeIsEmptyBehindAFault() {
        Probe probe = new Probe();
        probe.feed("x".repeat(60));
        Due.is("a fault", probe.court.market(1), -1000);
        Due.is("the tape", probe.court.count(6), 0);
    }

    // "NONE: no such n, it has not so many (the tape stays)"
    private static void tapeStaysBehindNone() {
        Probe probe = new Probe();
        probe.feed(NINE_ROWS + "9.s");
        probe.court.market(0);
        probe.court.market(41);
        probe.court.market(141);
        Due.is("the tape", probe.court.count(6), 40);
        Due.is("what it holds", probe.court.market(30), 1);
    }

    // "10 ROWS (y 0 on) with a / between two"
    private static void tenRows() {
        fault(ROW.repeat(8) + "0.", -1026);
        Due.is("ten", new Probe().market(NINE_ROWS + "0."), 0);
        fault(NINE_ROWS + "0./0.", -1029);
        fault("/" + NINE_ROWS + "0.", -1000);
        fault("0.//" + ROW.repeat(8) + "0.", -1003);
        fault(NINE_ROWS + "0./", -1029);
    }

    // "each of 10 spots (x 0 on)"
    private static void tenSpotsInARow() {
        Due.is("signs alone", new Probe().market(".#sr....../" + ROW.repeat(8) + "0."), 3);
        fault(".........", -1009);
        fault("..........", -1010);
        fault("...........", -6010);
    }

    // "ahead of each perhaps a digit 2 to 9 (so many)"
    private static void digitsTwoToNine() {
        for (int times = 2; times <= 9; times++) {
            String row = times + "#" + ".".repeat(10 - times) + "/";
            Probe probe = new Probe();
            Due.is(times + " walls", probe.market(row + ROW.repeat(8) + "0."), times);
            Due.is("the last of them", probe.court.count(100 + times - 1), 1);
            Due.is("none behind", probe.court.count(100 + times), 0);
        }
        fault("1.9./", -1000);
        fault(".1.8./", -1001);
    }

    // "or 0 (ten)"
    private static void digitZeroIsTen() {
        Probe probe = new Probe();
        Due.is("ten river spots", probe.market(NINE_ROWS + "0r"), 10);
        Due.is("the first", probe.court.count(190), 3);
        Due.is("the last", probe.court.count(199), 3);
        fault("00.", -1001);
    }

    // "1 what can't stand there": any other byte, where a spot, a / or the end must be
    private static void noOtherByteCanStand() {
        for (int sign = 0; sign < 256; sign++) {
            boolean isSpot = ".#sr".indexOf(sign) >= 0;
            boolean isDigit = "234567890".indexOf(sign) >= 0;
            String text = String.valueOf((char) sign);
            fault(text, isSpot || isDigit ? -1001 : -1000);
            fault("." + text, sign == '0' ? -6001 : isSpot || isDigit ? -1002 : -1001);
            fault("2" + text, isSpot ? -1002 : -1001);
            fault("0." + text, isSpot || isDigit ? -6002 : sign == '/' ? -1003 : -1002);
            fault(NINE_ROWS + "0." + text, isSpot || isDigit ? -6029 : -1029);
        }
    }

    // "1 what can't stand there (the end, too ..)"
    private static void theEndCanNotStandWhereASpotMust() {
        fault("3", -1001);
        fault("0./", -1003);
        fault("0./5", -1004);
        fault(NINE_ROWS, -1027);
        fault(NINE_ROWS + "2", -1028);
        fault(NINE_ROWS + "9.", -1029);
    }

    // "(.. a ROW's end ahead of its 10th spot)"
    private static void rowEndsAheadOfItsTenthSpot() {
        fault("9./", -1002);
        fault("...../", -1005);
        fault(ROW.repeat(4) + "9#/", -1014);
        fault("2/", -1001);
    }

    // "6 more than 10 in a ROW, at the spot .. that is too many"
    private static void tooManyAtASpot() {
        fault("0.s", -6002);
        fault("9..#", -6003);
        fault("..........r", -6010);
        fault("5#5.r", -6004);
        fault(NINE_ROWS + "0..", -6029);
    }

    // "6 .. or the digit .. that is too many"
    private static void tooManyAtADigit() {
        fault("0.2.", -6002);
        fault("9.2.", -6002);
        fault(".0.", -6001);
        fault("6#5s", -6002);
        fault("2.9.", -6002);
        fault("9.0.", -6002);
        fault(NINE_ROWS + "8.3r", -6029);
    }

    // "(asked ahead of what follows it)"
    private static void digitIsAskedAheadOfWhatFollows() {
        fault("9.2x", -6002);
        fault("9.2", -6002);
        fault("9.2/", -6002);
        fault("0.9", -6002);
        fault("8.2x", -1003);
        fault("8.2", -1003);
    }

    // "FAULTS, the first from the left"
    private static void firstFaultFromTheLeft() {
        fault("x9.2.", -1000);
        fault("9.2./x", -6002);
        fault("0./9.2.x/", -6005);
        fault("0./9.x2./", -1005);
    }

    // "how many spots are not plain"
    private static void howManyAreNotPlain() {
        Due.is("none", new Probe().market(NINE_ROWS + "0."), 0);
        Due.is("the last", new Probe().market(NINE_ROWS + "9.s"), 1);
        Due.is("walls, stairs, river", new Probe().market("#sr7./" + ROW.repeat(8) + "0."), 3);
        Due.is("all", new Probe().market("0#/0s/0r/".repeat(3) + "0#"), 100);
    }

    // "in place of the one before"
    private static void inPlaceOfTheOneBefore() {
        Probe probe = new Probe();
        probe.market("0#/".repeat(9) + "0#");
        Due.is("another one", probe.market("2s8./" + ROW.repeat(8) + "9.r"), 3);
        Due.is("a spot of it", probe.court.count(101), 2);
        Due.is("where a wall was", probe.court.count(150), 0);
        Due.is("its last spot", probe.court.count(199), 3);
    }

    // "a FAULT .. (the one before stays)"
    private static void theOneBeforeStaysBehindAFault() {
        Probe probe = new Probe();
        probe.marketWith(0, "r9.");
        probe.court.judge(0, 5, 5);
        probe.court.keep();
        Due.is("a fault in the last row", probe.market("0#/".repeat(9) + "9#"), -1029);
        Due.is("a spot", probe.court.count(100), 3);
        Due.is("another spot", probe.court.count(155), 0);
        Due.is("the judge", probe.court.count(10), 55);
        Due.yes("things are still kept", probe.court.undo());
    }

    // "(JUDGES .. on what is wall or river now are told no more ..)"
    private static void judgesAreToldNoMore() {
        for (int j = 0; j < 2; j++) {
            Probe probe = new Probe();
            probe.court.judge(0, 0, 0);
            probe.court.judge(1, 9, 0);
            probe.walk(j, "5n");
            probe.marketWith(0, j == 0 ? "#9." : "9.r");
            Due.is("the other one", probe.court.count(1), j == 0 ? 2 : 1);
            Due.is("judge " + j, probe.court.count(10 + j), -1);
            Due.is("its walk", probe.court.count(20 + j), 5);
            Due.is("the spot", probe.court.home(j, 1, 10), -1);
        }
    }

    // "(.. FELONS .. on what is wall or river now are told no more ..)"
    private static void felonsAreToldNoMore() {
        for (int gone = 0; gone < 10; gone++) {
            Probe probe = new Probe();
            for (int f = 0; f < 10; f++) {
                probe.court.felon(f, f, 0, f + 1);
            }
            String row = ".".repeat(gone) + (gone % 2 == 0 ? "#" : "r") + ".".repeat(9 - gone);
            probe.marketWith(0, row);
            Due.is("told without " + gone, probe.court.count(2), 1023 - (1 << gone));
            Due.is("it is asked", probe.court.felonIs(gone, 1), -1);
            Due.is("what the others owe", probe.court.count(4), 55 - gone - 1);
        }
    }

    // The same, of a FELON that has drowned: it lies in what is river still.
    private static void drownedFelonsAreToldNoMore() {
        Probe probe = Probe.eastward();
        probe.marketWith(2, "3.r6.");
        probe.court.judge(0, 2, 2);
        probe.court.felon(0, 3, 3, 5);
        probe.court.minutes(1);
        Due.is("it has drowned", probe.court.felonIs(0, 3), 1);
        probe.marketWith(2, "3.r6.");
        Due.is("told no more", probe.court.count(2), 0);
        Due.is("owed by all", probe.court.count(4), 0);
    }

    // "(.. LAMPS on what is wall or river now are told no more ..)"
    private static void lampsAreToldNoMore() {
        for (int gone = 0; gone < 4; gone++) {
            Probe probe = new Probe();
            for (int i = 0; i < 4; i++) {
                probe.court.lamp(i, i, 9);
            }
            probe.marketWith(9, ".".repeat(gone) + (gone % 2 == 0 ? "r" : "#") + ".".repeat(9 - gone));
            Due.is("told without " + gone, probe.court.count(3), 15 - (1 << gone));
            Due.is("its spot", probe.court.count(30 + gone), -1);
        }
    }

    // "on what is wall or river now": not on stairs
    private static void stairsSendNobodyAway() {
        Probe probe = new Probe();
        probe.court.judge(1, 0, 0);
        probe.court.felon(9, 1, 0, 7);
        probe.court.lamp(3, 2, 0);
        probe.marketWith(0, "0s");
        Due.is("the judge", probe.court.count(11), 0);
        Due.is("the felon", probe.court.felonIs(9, 0), 1);
        Due.is("the lamp", probe.court.count(33), 2);
    }

    // "nothing is KEPT any more"
    private static void nothingIsKeptAnyMore() {
        Probe probe = new Probe();
        probe.court.keep();
        Due.yes("kept", probe.court.undo());
        Due.is("the same market once more", probe.market(NINE_ROWS + "0."), 0);
        Due.no("not any more", probe.court.undo());
        probe.court.keep();
        Due.yes("kept anew", probe.court.undo());
    }
}
