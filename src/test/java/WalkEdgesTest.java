/** The sentences that name an edge: Terms, a WALK, and promise 6 (walk), one test each. */
public final class WalkEdgesTest {
    public static void main(String[] args) {
        noneAtFirst();
        atLeastOneByte();
        atMost80Bytes();
        asManyAsTheTapeHas();
        tapeIsEmptyThen();
        tapeStaysBehindNone();
        noSuchJudge();
        ofAJudgeToldOrNot();
        noBlanks();
        digitsTwoToNine();
        roundsLikewise();
        noOtherByteCanStand();
        theEndCanNotStandWhereAStepMust();
        roundsCanNotBeEmpty();
        aClosingNeedsItsOpening();
        aThirdOpening();
        openingsBesideOneAnother();
        sixtySteps();
        aStepTooMany();
        aDigitTooMany();
        askedWhenItEnds();
        anInnerOneFirst();
        stepsOfInnerRoundsCountInAll();
        inPlaceOfWhatIsLeft();
        theOneBeforeStaysBehindAFault();
        Due.end("WalkEdgesTest");
    }

    private static void walk(String text, int want) {
        Due.is("walk of " + text, new Probe().walk(0, text), want);
    }

    // "a WALK: a TEXT of at most 80 bytes, no blanks (none at first)"
    private static void noneAtFirst() {
        ShadowCourt court = new ShadowCourt();
        Due.is("steps of judge 0", court.count(20), 0);
        Due.is("steps of judge 1", court.count(21), 0);
        court.judge(0, 4, 4);
        Due.is("it stays", court.tried(120, 30), 44);
    }

    // "by the first n bytes of the tape (1 to 80 ..)": too few
    private static void atLeastOneByte() {
        Probe probe = new Probe();
        probe.feed("nnnn");
        Due.is("n 0", probe.court.walk(0, 0), -1);
        Due.is("n -1", probe.court.walk(0, -1), -1);
        Due.is("least n", probe.court.walk(0, Integer.MIN_VALUE), -1);
        Due.is("n 1", probe.court.walk(0, 1), 1);
    }

    // "by the first n bytes of the tape (1 to 80 ..)": too many
    private static void atMost80Bytes() {
        String text = "(" + "(n)".repeat(26) + ")" + "e";
        Probe probe = new Probe();
        probe.feed(text);
        Due.is("n 81", probe.court.walk(0, 81), -1);
        Due.is("greatest n", probe.court.walk(0, Integer.MAX_VALUE), -1);
        Due.is("n 80", probe.court.walk(0, 80), 26);
    }

    // "NONE: .. it has not so many"
    private static void asManyAsTheTapeHas() {
        Probe probe = new Probe();
        Due.is("1 of none", probe.court.walk(0, 1), -1);
        probe.feed("nesw".repeat(5));
        Due.is("21 of 20", probe.court.walk(0, 21), -1);
        Due.is("20 of 20", probe.court.walk(0, 20), 20);
    }

    // "(.. empty then)"
    private static void tapeIsEmptyThen() {
        Probe probe = new Probe();
        probe.feed("n".repeat(60));
        Due.is("one of sixty", probe.court.walk(1, 1), 1);
        Due.is("the tape", probe.court.count(6), 0);
        probe.feed("x".repeat(40));
        Due.is("a fault", probe.court.walk(1, 1), -1000);
        Due.is("the tape behind a fault", probe.court.count(6), 0);
    }

    // "NONE: .. (the tape stays)"
    private static void tapeStaysBehindNone() {
        Probe probe = new Probe();
        probe.feed("2n3e");
        probe.court.walk(2, 4);
        probe.court.walk(0, 0);
        probe.court.walk(0, 21);
        probe.court.walk(0, 81);
        Due.is("the tape", probe.court.count(6), 20);
        Due.is("what it holds", probe.court.walk(0, 4), 5);
    }

    // "JUDGES 0, 1", "NONE: no such ones"
    private static void noSuchJudge() {
        Probe probe = new Probe();
        int[] judges = {-1, 2, Integer.MIN_VALUE, Integer.MAX_VALUE};
        for (int j : judges) {
            Due.is("walk of judge " + j, probe.walk(j, "n"), -1);
        }
        Due.is("walk of judge 0", probe.walk(0, "n"), 1);
        Due.is("walk of judge 1", probe.walk(1, "2n"), 2);
    }

    // "A WALK of a JUDGE (told or not)"
    private static void ofAJudgeToldOrNot() {
        Probe probe = new Probe();
        Due.is("not told", probe.walk(0, "3e"), 3);
        probe.court.judge(0, 0, 0);
        Due.is("it goes it, once it is told", probe.court.tried(3, 30), 3);
        Due.is("told", probe.walk(0, "4n"), 4);
        Due.is("it goes it", probe.court.tried(4, 30), 40);
    }

    // "no blanks"
    private static void noBlanks() {
        walk(" n", -1000);
        walk("n n", -1001);
        walk("2 n", -1001);
        walk("n ", -1001);
        walk("( n)", -1001);
        walk("(n )", -1002);
    }

    // "ahead of each perhaps a digit 2 to 9 (so many times)"
    private static void digitsTwoToNine() {
        for (int times = 2; times <= 9; times++) {
            walk(times + "e", times);
            walk(times + ".", times);
        }
        walk("0e", -1000);
        walk("1e", -1000);
        walk("22e", -1001);
    }

    // "(STEPS) likewise"
    private static void roundsLikewise() {
        walk("(n)", 1);
        walk("2(ne)", 4);
        walk("9(n)", 9);
        walk("1(n)", -1000);
        walk("0(n)", -1000);
        walk("2(3(ne)s)w", 15);
        Probe probe = new Probe();
        probe.court.judge(0, 0, 0);
        probe.walk(0, "2(2(n)e)");
        int[] spots = {10, 20, 21, 31, 41, 42, 42};
        for (int i = 0; i < spots.length; i++) {
            Due.is("behind step " + (i + 1), probe.court.tried(i + 1, 30), spots[i]);
        }
    }

    // "1 what can't stand there": any other byte
    private static void noOtherByteCanStand() {
        for (int sign = 0; sign < 256; sign++) {
            boolean isStep = "nesw.".indexOf(sign) >= 0;
            boolean opens = sign == '(' || sign >= '2' && sign <= '9';
            String text = String.valueOf((char) sign);
            walk(text, isStep ? 1 : opens ? -1001 : -1000);
            walk("n" + text, isStep ? 2 : opens ? -1002 : -1001);
            walk("3" + text, isStep ? 3 : sign == '(' ? -1002 : -1001);
            walk("(n" + text, isStep || opens || sign == ')' ? sign == ')' ? 1 : -1003 : -1002);
        }
    }

    // "1 what can't stand there (the end, too)"
    private static void theEndCanNotStandWhereAStepMust() {
        walk("2", -1001);
        walk("n9", -1002);
        walk("(", -1001);
        walk("2(", -1002);
        walk("(n", -1002);
        walk("((n)", -1004);
    }

    // STEPS: "one behind the other", so one at least
    private static void roundsCanNotBeEmpty() {
        walk("()", -1001);
        walk("n3()", -1003);
        walk("(())", -1002);
        walk("(2)", -1002);
    }

    // A ) without its ( can't stand there.
    private static void aClosingNeedsItsOpening() {
        walk(")", -1000);
        walk("n)", -1001);
        walk("(n))", -1003);
        walk("((n)))", -1005);
    }

    // "5 a third ( that is open in another one, at it"
    private static void aThirdOpening() {
        walk("((n))", 1);
        walk("(((", -5002);
        walk("(((n)))", -5002);
        walk("(n2(e3(s)))", -5006);
        walk("(n(e)(s(w)))", -5007);
    }

    // "that is open in another one": of those beside it none is open
    private static void openingsBesideOneAnother() {
        walk("(n)(n)(n)(n)", 4);
        walk("((n)(n)(n))", 3);
        walk("((n))((n))", 2);
    }

    // "60 STEPS at most in all"
    private static void sixtySteps() {
        walk("n".repeat(60), 60);
        walk("6(9n)6n", 60);
        walk("6(2(5n))", 60);
        walk("6(9n)3(2n)", 60);
        walk("n".repeat(61), -6060);
    }

    // "6 more than 60 STEPS, at the first byte of the STEP .. by which they are"
    private static void aStepTooMany() {
        walk("6(9n)6ne", -6007);
        walk("6(9n)6n.", -6007);
        walk("6(9n)6n(e)", -6008);
    }

    // "(or its digit)"
    private static void aDigitTooMany() {
        walk("6(9n)7n", -6005);
        walk("6(9n)6n2e", -6007);
        walk("7(9n)", -6000);
        walk("n2(n)9(8n)", -6005);
        walk("(n)3(7(3n))", -6003);
    }

    // "(asked when it ends ..)": a fault inside, or where its ) must be, goes ahead
    private static void askedWhenItEnds() {
        walk("7(9nx", -1004);
        walk("7(9n", -1004);
        walk("9(9n(((", -5005);
        walk("6(9n)7x", -1006);
        walk("6(9n)6n(", -1008);
    }

    // "of an inner one first"
    private static void anInnerOneFirst() {
        walk("2(7(9n))", -6002);
        walk("9(9(9n))", -6002);
        walk("(7(9n))", -6001);
        walk("2(8n9(8n))", -6004);
    }

    // "60 STEPS .. in all": those ahead of the ( count when a STEP inside ends
    private static void stepsOfInnerRoundsCountInAll() {
        walk("6(9n)2(7n)", -6007);
        walk("6(9n)(6nn)", -6008);
        walk("6(9n)2(4n)", -6005);
    }

    // "in place of what is left of the one before"
    private static void inPlaceOfWhatIsLeft() {
        Probe probe = new Probe();
        probe.court.judge(1, 0, 0);
        probe.walk(1, "9n");
        probe.court.minutes(2);
        Due.is("left", probe.court.count(21), 7);
        Due.is("in its place", probe.walk(1, "3e"), 3);
        Due.is("left", probe.court.count(21), 3);
        Due.is("it goes on from where it is", probe.court.tried(9, 31), 23);
    }

    // "how many STEPS; a FAULT": what is left stays behind a FAULT
    private static void theOneBeforeStaysBehindAFault() {
        Probe probe = new Probe();
        probe.court.judge(0, 0, 0);
        probe.walk(0, "9n");
        probe.court.minutes(2);
        Due.is("a fault behind steps", probe.walk(0, "5e5ex"), -1004);
        Due.is("left", probe.court.count(20), 7);
        Due.is("it goes on as it was", probe.court.tried(2, 30), 40);
    }
}
