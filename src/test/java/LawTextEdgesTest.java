/** The sentences that name an edge: Terms, THE LAW as a TEXT, and promise 4 (law), one test each. */
public final class LawTextEdgesTest {
    private static final String SIXTEEN = "n(t=0)" + ";n(t=0)".repeat(15);

    public static void main(String[] args) {
        noneAtFirst();
        atLeastOneByte();
        atMost240Bytes();
        asManyAsTheTapeHas();
        tapeIsEmptyThen();
        tapeStaysBehindNone();
        noBlanks();
        clausesWithASemicolonBetweenTwo();
        aLetterMustStandFirst();
        ofNOnlyItsCondition();
        othersNeedAnExpression();
        theConditionStandsInRounds();
        partsAndPiecesAreNotEmpty();
        oneComparisonInAPiece();
        termsAndFactorsAreNotEmpty();
        noOtherByteCanStand();
        theEndCanNotStandInAClause();
        lettersOfFactors();
        oneToFiveDigits();
        aSixthDigit();
        sixteenClauses();
        aSeventeenthClause();
        aSeventeenthThatCanNotStand();
        sixAreOpenInOneAnother();
        aSeventhRound();
        aSeventhBracket();
        aSeventhNot();
        theRoundOfTheClauseCounts();
        aNotIsOpenTillItsPieceEnds();
        expressionStandsAheadOfTheRound();
        firstFaultFromTheLeft();
        inPlaceOfTheOneBefore();
        theOneBeforeStaysBehindAFault();
        Due.end("LawTextEdgesTest");
    }

    private static void law(String text, int want) {
        Due.is("law of " + text, new Probe().law(text), want);
    }

    // "THE LAW: a TEXT .. (none at first)"
    private static void noneAtFirst() {
        ShadowCourt court = new ShadowCourt();
        court.judge(0, 5, 5);
        court.felon(0, 5, 6, 9);
        Due.is("clauses", court.count(5), 0);
        Due.is("night", court.count(8), 0);
        Due.is("spots in shadow", court.atOnce(1), 0);
        Due.is("v", court.felonIs(0, 4), 0);
        Due.is("cloudy minutes", court.tried(120, 3), 0);
    }

    // "the first n bytes of the tape (1 to 240 ..)": too few
    private static void atLeastOneByte() {
        Probe probe = new Probe();
        probe.feed("n(t=0)");
        Due.is("n 0", probe.court.law(0), -1);
        Due.is("n -1", probe.court.law(-1), -1);
        Due.is("least n", probe.court.law(Integer.MIN_VALUE), -1);
        Due.is("n 1", probe.court.law(1), -1001);
    }

    // "the first n bytes of the tape (1 to 240 ..)": too many
    private static void atMost240Bytes() {
        String text = "l11" + "+1".repeat(116) + "(t=t)";
        Probe probe = new Probe();
        probe.feed(text + ";n(t=0)");
        Due.is("bytes", probe.court.count(6), 260);
        Due.is("n 241", probe.court.law(241), -1);
        Due.is("greatest n", probe.court.law(Integer.MAX_VALUE), -1);
        Due.is("n 240", probe.court.law(240), 1);
    }

    // "NONE: as above": it has not so many
    private static void asManyAsTheTapeHas() {
        Probe probe = new Probe();
        Due.is("1 of none", probe.court.law(1), -1);
        probe.feed("l1234+1+1+1+1+1(t=0)");
        Due.is("bytes", probe.court.count(6), 20);
        Due.is("21 of 20", probe.court.law(21), -1);
        Due.is("20 of 20", probe.court.law(20), 1);
    }

    // "(.. empty then)"
    private static void tapeIsEmptyThen() {
        Probe probe = new Probe();
        probe.feed("n(t=0)" + "x".repeat(60));
        Due.is("6 of 80", probe.court.law(6), 1);
        Due.is("the tape", probe.court.count(6), 0);
        probe.feed("x".repeat(40));
        Due.is("a fault", probe.court.law(1), -1000);
        Due.is("the tape behind a fault", probe.court.count(6), 0);
    }

    // "NONE: as above" (the tape stays)
    private static void tapeStaysBehindNone() {
        Probe probe = new Probe();
        probe.feed("n(t=0);n(t=0)");
        probe.court.law(0);
        probe.court.law(21);
        probe.court.law(241);
        Due.is("the tape", probe.court.count(6), 20);
        Due.is("what it holds", probe.court.law(13), 2);
    }

    // "no blanks"
    private static void noBlanks() {
        law(" n(t=0)", -1000);
        law("n (t=0)", -1001);
        law("n( t=0)", -1002);
        law("n(t =0)", -1003);
        law("n(t= 0)", -1004);
        law("n(t=0 )", -1005);
        law("n(t=0) ", -1006);
        law("n(t=0); n(t=0)", -1007);
        law("v1 +1(t=0)", -1002);
        law("v1+ 1(t=0)", -1003);
    }

    // "CLAUSES (16 at most) with a ; (59) between two"
    private static void clausesWithASemicolonBetweenTwo() {
        law("n(t=0);v1(t=0)", 2);
        law("n(t=0)v1(t=0)", -1006);
        law("n(t=0);;v1(t=0)", -1007);
        law(";n(t=0)", -1000);
        law("n(t=0);", -1007);
        law("n(t=0),v1(t=0)", -1006);
    }

    // "a letter": a, l, c, n, v, o
    private static void aLetterMustStandFirst() {
        for (int sign = 0; sign < 256; sign++) {
            String text = String.valueOf((char) sign);
            boolean isLetter = "alcnvo".indexOf(sign) >= 0;
            law(text, isLetter ? -1001 : -1000);
            law("n(t=0);" + text, isLetter ? -1008 : -1007);
        }
    }

    // "of n only (C)"
    private static void ofNOnlyItsCondition() {
        law("n(t=0)", 1);
        law("n5(t=0)", -1001);
        law("nt(t=0)", -1001);
        law("n[t](t=0)", -1001);
        law("n!(t=0)", -1001);
    }

    // "a letter, E, and (C)"
    private static void othersNeedAnExpression() {
        String letters = "alcvo";
        for (int i = 0; i < letters.length(); i++) {
            law(letters.charAt(i) + "(t=0)", -1001);
            law(letters.charAt(i) + "t(t=0)", 1);
        }
    }

    // "and (C)"
    private static void theConditionStandsInRounds() {
        law("v1", -1002);
        law("v1t=0", -1002);
        law("v1()", -1003);
        law("v1(t=0", -1006);
        law("v1(t=0))", -1007);
        law("v1[t=0]", -1002);
    }

    // "PARTS with a | between two", "PIECES with an & between two"
    private static void partsAndPiecesAreNotEmpty() {
        law("n(t=0|t=1)", 1);
        law("n(t=0&t=1)", 1);
        law("n(|t=0)", -1002);
        law("n(&t=0)", -1002);
        law("n(t=0|)", -1006);
        law("n(t=0&)", -1006);
        law("n(t=0||t=1)", -1006);
        law("n(t=0&&t=1)", -1006);
        law("n(t=0|&t=1)", -1006);
        law("n(!)", -1003);
        law("n(())", -1003);
    }

    // "E, one of < > =, and E"
    private static void oneComparisonInAPiece() {
        law("n(t<0)", 1);
        law("n(t>0)", 1);
        law("n(t=0)", 1);
        law("n(t)", -1003);
        law("n(=0)", -1002);
        law("n(t=)", -1004);
        law("n(t==0)", -1004);
        law("n(t<=0)", -1004);
        law("n(t=0=0)", -1005);
        law("n((t)=0)", -1004);
        law("n([t=0])", -1004);
        law("n(t!0)", -1003);
    }

    // "TERMS with + or - between two; .. FACTORS with one of * / % between two"
    private static void termsAndFactorsAreNotEmpty() {
        law("v1+2-3*4/5%6(t=0)", 1);
        law("v+1(t=0)", -1001);
        law("v-1(t=0)", -1001);
        law("v*1(t=0)", -1001);
        law("v1+(t=0)", -1003);
        law("v1*(t=0)", -1003);
        law("v1+-1(t=0)", -1003);
        law("v1*/1(t=0)", -1003);
        law("v[](t=0)", -1002);
        law("v[1(t=0)", -1003);
        law("v1](t=0)", -1002);
        law("v1t(t=0)", -1002);
        law("vt1(t=0)", -1002);
    }

    // "1 what can't stand there": any other byte, where a FACTOR, or what is behind one, must be
    private static void noOtherByteCanStand() {
        for (int sign = 0; sign < 256; sign++) {
            String text = String.valueOf((char) sign);
            boolean isDigit = sign >= '0' && sign <= '9';
            boolean isFactor = isDigit || "thjfwbs[".indexOf(sign) >= 0;
            boolean joins = "+-*/%".indexOf(sign) >= 0;
            law("v" + text, isFactor ? -1002 : -1001);
            law("v1" + text, isDigit || joins || sign == '(' ? -1003 : -1002);
            law("n(" + text, isFactor || sign == '!' || sign == '(' ? -1003 : -1002);
            law("n(t" + text, joins || "<>=".indexOf(sign) >= 0 ? -1004 : -1003);
            law("n(t=0" + text, isDigit || joins || "&|)".indexOf(sign) >= 0 ? sign == ')' ? 1 : -1006 : -1005);
        }
    }

    // "1 what can't stand there (the end, too)": each front of a whole LAW that ends too early
    private static void theEndCanNotStandInAClause() {
        String whole = "v[1+t]*2(!(t<3&t>1)|0=t);n(t=0)";
        for (int n = 1; n < whole.length(); n++) {
            law(whole.substring(0, n), n == 24 ? 1 : -1000 - n);
        }
        law(whole, 2);
    }

    // "a letter: t .. h .. j .. f .. w .. b .. s": in each E, whatever its letter
    private static void lettersOfFactors() {
        law("at+h+j+f+w+b+s(t=h&j=f&w=b|s=0)", 1);
        law("lt+h+j+f+w+b+s(t=h&j=f&w=b|s=0)", 1);
        law("ct+h+j+f+w+b+s(t=h&j=f&w=b|s=0)", 1);
        law("n(t+h+j+f+w+b+s=0)", 1);
        law("vt+h+j+f+w+b+s(t=h&j=f&w=b|s=0)", 1);
        law("ot+h+j+f+w+b+s(t=h&j=f&w=b|s=0)", 1);
    }

    // "a number of one to five digits"
    private static void oneToFiveDigits() {
        law("v0(t=0)", 1);
        law("v9(t=0)", 1);
        law("v12345(t=0)", 1);
        law("v99999(t=0)", 1);
        law("v00000(t=0)", 1);
    }

    // "2 a sixth digit, at it"
    private static void aSixthDigit() {
        law("v123456(t=0)", -2006);
        law("v000000(t=0)", -2006);
        law("v1234567(t=0)", -2006);
        law("v1+[123456](t=0)", -2009);
        law("n(123456=0)", -2007);
        law("n(0=123456)", -2009);
        law("v12345x(t=0)", -1006);
    }

    // "CLAUSES (16 at most)"
    private static void sixteenClauses() {
        law(SIXTEEN, 16);
        law("v1(t=0)" + ";a1(t=0)".repeat(15), 16);
    }

    // "4 a 17th CLAUSE, at its letter"
    private static void aSeventeenthClause() {
        String letters = "alcnvo";
        for (int i = 0; i < letters.length(); i++) {
            law(SIXTEEN + ";" + letters.charAt(i), -4112);
        }
        law(SIXTEEN + ";n(t=0)", -4112);
        law(SIXTEEN + ";nx", -4112);
    }

    // "(if that can stand there)"
    private static void aSeventeenthThatCanNotStand() {
        law(SIXTEEN + ";", -1112);
        law(SIXTEEN + ";t(t=0)", -1112);
        law(SIXTEEN + ";;", -1112);
        law(SIXTEEN + "n", -1111);
    }

    // "5 a seventh of ( [ ! that are open in one another": six can be
    private static void sixAreOpenInOneAnother() {
        law("n((((((t=0))))))", 1);
        law("n(!!!!!t=0)", 1);
        law("n(t=[[[[[0]]]]])", 1);
        law("n(!(!([t]=0)))", 1);
        law("n((((((t=0))))))".replace("t=0", "t=0&t=0|t=0"), 1);
    }

    // "5 a seventh of ( .., at it"
    private static void aSeventhRound() {
        law("n(((((((t=0)))))))", -5007);
        law("n(!!!!!(t=0))", -5007);
        law("n(t=0|(!(!(!(t=0)))))", -5011);
    }

    // "5 a seventh of .. [ .., at it"
    private static void aSeventhBracket() {
        law("n(t=[[[[[[0]]]]]])", -5009);
        law("n(((((([t]=0))))))", -5007);
        law("n(!!!!![t]=0)", -5007);
        law("n(!!!!!t=[0])", -5009);
        law("v[[[[[[[1]]]]]]](t=0)", -5007);
    }

    // "5 a seventh of .. !, at it"
    private static void aSeventhNot() {
        law("n(!!!!!!t=0)", -5007);
        law("n((((((!t=0))))))", -5007);
        law("n(!(!((!t=0))))", -5007);
    }

    // "(the ( of the CLAUSE counts ..)"
    private static void theRoundOfTheClauseCounts() {
        law("n(((((((", -5007);
        law("v1(((((((", -5008);
    }

    // "(.. a ! is open till its PIECE ends ..)"
    private static void aNotIsOpenTillItsPieceEnds() {
        law("n(!!!!!t=0&!!!!!t=0)", 1);
        law("n(!!!!!t=0|!!!!!t=0)", 1);
        law("n(!!!!(t=0)&((((t=0)))))", 1);
        law("n(!!!!!t=0&[[[[[t]]]]]=0)", 1);
        law("n(!!!!!t=0&!!!!!!t=0)", -5016);
        law("n(!!!!(t=0|(t=0)))", -5011);
    }

    // "(.. the E of a CLAUSE stands ahead of it)"
    private static void expressionStandsAheadOfTheRound() {
        law("v[[[[[[1]]]]]](t=0)", 1);
        law("v[[[[[[1]]]]]]((((((t=0))))))", 1);
        law("v[[[[[[1]]]]]]+[[[[[[1]]]]]](t=0)", 1);
    }

    // "FAULTS, the first from the left"
    private static void firstFaultFromTheLeft() {
        law("v123456x(((((((", -2006);
        law("n(((((((123456=0", -5007);
        law("vx123456", -1001);
        law("n(t=0(((((((", -1005);
        law("n(t=0)x" + SIXTEEN, -1006);
    }

    // "in place of the one before: how many CLAUSES"
    private static void inPlaceOfTheOneBefore() {
        Probe probe = new Probe();
        probe.court.felon(0, 5, 5, 5);
        Due.is("three", probe.law("v1(0=0);n(0=0);v2(0=0)"), 3);
        Due.is("v", probe.court.felonIs(0, 4), 1);
        Due.is("night", probe.court.count(8), 1);
        Due.is("one", probe.law("v3(0=0)"), 1);
        Due.is("clauses", probe.court.count(5), 1);
        Due.is("v", probe.court.felonIs(0, 4), 3);
        Due.is("night no more", probe.court.count(8), 0);
    }

    // "a FAULT": the one before stays
    private static void theOneBeforeStaysBehindAFault() {
        Probe probe = new Probe();
        probe.court.felon(0, 5, 5, 5);
        probe.law("v1(0=0);n(0=0)");
        Due.is("a fault in the last clause", probe.law("v3(0=0);n(0=1);v2(0=0);x"), -1023);
        Due.is("clauses", probe.court.count(5), 2);
        Due.is("v", probe.court.felonIs(0, 4), 1);
        Due.is("night", probe.court.count(8), 1);
    }
}
