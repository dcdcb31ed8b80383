/** The sentences that name an edge: Terms, what THE LAW comes to, one test each. */
public final class LawEdgesTest {
    public static void main(String[] args) {
        shadowsFallInWays0To7();
        shadowsAre0To9Long();
        cloudyIn0To10Tenths();
        felonsMake0To3Steps();
        felonsRank0To999();
        anyNightWillDo();
        withoutANightNever();
        theFirstClauseThatHolds();
        noneHoldsIs0();
        fromTheLeftOn();
        minuteFrom0To9999();
        hourIsTheMinuteThrough60();
        hourIsModulo24();
        judgeInAAndL();
        felonInVAndO();
        notToldTheyAre0();
        staleLettersAre0();
        wrapsWith32Bits();
        dividesAsTheMachineDoes();
        leastNumberThroughMinusOne();
        dividedBy0InAnExpression();
        dividedBy0InACondition();
        throughNotRoundsAndParts();
        refusedIsNotTheEnd();
        asMuchIsAskedAsMatters();
        Due.end("LawEdgesTest");
    }

    private static void holds(String condition, boolean want) {
        Probe probe = new Probe();
        Due.is("law with " + condition, probe.law("n(" + condition + ")"), 1);
        Due.is(condition, probe.court.count(8), want ? 1 : 0);
    }

    private static int reach(String law) {
        Probe probe = new Probe();
        probe.court.felon(0, 5, 5, 7);
        probe.law(law);
        return probe.court.felonIs(0, 4);
    }

    // "a the way in which shadows fall (0 to 7)", "(beyond its bounds the bound ..)"
    private static void shadowsFallInWays0To7() {
        String[] worths = {"0-1", "0", "7", "8", "99999", "0-99999*99999"};
        int[] spots = {65, 65, 64, 64, 64, 65};
        for (int i = 0; i < worths.length; i++) {
            Probe probe = new Probe();
            probe.court.judge(0, 5, 5);
            probe.law("a" + worths[i] + "(0=0);l1(0=0)");
            Due.is("a " + worths[i], probe.court.shade(spots[i] % 10, spots[i] / 10), 1);
        }
    }

    // "l how long they are (0 to 9)"
    private static void shadowsAre0To9Long() {
        String[] worths = {"0-1", "0", "1", "8", "9", "10", "99999"};
        int[] want = {0, 0, 1, 8, 9, 9, 9};
        for (int i = 0; i < worths.length; i++) {
            Probe probe = new Probe();
            probe.court.judge(0, 0, 5);
            probe.law("a2(0=0);l" + worths[i] + "(0=0)");
            Due.is("l " + worths[i], probe.court.atOnce(1), want[i]);
        }
    }

    // "c tenths that it is cloudy (0 to 10)"
    private static void cloudyIn0To10Tenths() {
        String[] worths = {"0-1", "0", "10", "11", "99999"};
        int[] want = {0, 0, 120, 120, 120};
        for (int i = 0; i < worths.length; i++) {
            Probe probe = new Probe();
            probe.law("c" + worths[i] + "(0=0)");
            Due.is("c " + worths[i], probe.court.tried(120, 3), want[i]);
        }
    }

    // "v how many STEPS a FELON can make in a MINUTE (0 to 3)"
    private static void felonsMake0To3Steps() {
        Due.is("v -1", reach("v0-1(0=0)"), 0);
        Due.is("v 0", reach("v0(0=0)"), 0);
        Due.is("v 3", reach("v3(0=0)"), 3);
        Due.is("v 4", reach("v4(0=0)"), 3);
        Due.is("v 99999", reach("v99999(0=0)"), 3);
    }

    // "o by what FELONS go first (0 to 999)": beyond its bounds they are alike
    private static void felonsRank0To999() {
        Due.is("998 and 999", goesFirst("998+f"), 1);
        Due.is("999 and 1000", goesFirst("999+f"), 0);
        Due.is("1000 and 99999", goesFirst("1000+f*98999"), 0);
        Due.is("0 and 1", goesFirst("f"), 1);
        Due.is("-1 and 0", goesFirst("f-1"), 0);
        Due.is("-9 and -1", goesFirst("f*8-9"), 0);
        Due.is("none", goesFirst("f(0=1);o0"), 0);
    }

    /** Which of two felons takes the one spot that both can reach. */
    private static int goesFirst(String rank) {
        Probe probe = new Probe();
        probe.court.judge(1, 4, 4);
        probe.court.felon(0, 5, 5, 9);
        probe.court.felon(1, 5, 5, 9);
        probe.law("a2(0=0);l1(0=0);v3(0=0);o" + rank + "(0=0)");
        return probe.court.tried(1, 10) == 45 ? 0 : 1;
    }

    // "n it is night (any will do ..)"
    private static void anyNightWillDo() {
        Probe probe = new Probe();
        probe.law("n(0=1);n(0=1);n(0=0)");
        Due.is("the last", probe.court.count(8), 1);
        probe.law("n(0=0);n(0=1)");
        Due.is("the first", probe.court.count(8), 1);
        probe.law("n(0=1);n(0=1)");
        Due.is("none", probe.court.count(8), 0);
    }

    // "without an n in THE LAW never"
    private static void withoutANightNever() {
        Probe probe = new Probe();
        Due.is("no law", probe.court.count(8), 0);
        probe.law("a1(0=0);l1(0=0);c1(0=0);v1(0=0);o1(0=0)");
        Due.is("no n", probe.court.count(8), 0);
    }

    // "of the first CLAUSE of a, l, c, v, o whose C holds the E"
    private static void theFirstClauseThatHolds() {
        Due.is("the first", reach("v1(0=0);v2(0=0)"), 1);
        Due.is("the second", reach("v1(0=1);v2(0=0);v3(0=0)"), 2);
        Due.is("the last", reach("v1(0=1);v2(0=1);v3(0=0)"), 3);
        Due.is("of its letter", reach("l1(0=0);a2(0=0);v3(0=0)"), 3);
        Due.is("the sixteenth", reach("v0(0=1);".repeat(15) + "v2(0=0)"), 2);
        Due.is("the sixteenth does not", reach("v1(0=1);".repeat(15) + "v2(0=1)"), 0);
    }

    // "none: 0"
    private static void noneHoldsIs0() {
        Due.is("none holds", reach("v1(0=1);v2(0=1)"), 0);
        Due.is("there is none", reach("l1(0=0)"), 0);
        Probe probe = new Probe();
        probe.court.judge(0, 5, 5);
        probe.law("a2(0=1);l1(0=0)");
        Due.is("a is 0", probe.court.shade(5, 6), 1);
    }

    // "from the left on"
    private static void fromTheLeftOn() {
        holds("10-3-4=3", true);
        holds("10-3+4=11", true);
        holds("100/5/4=5", true);
        holds("7*3%5=1", true);
        holds("7%5*3=6", true);
        holds("9/2*2=8", true);
        holds("2+3*4-1=13", true);
        holds("2*[3+4]=14", true);
    }

    // "t THE MINUTE": at first and at last
    private static void minuteFrom0To9999() {
        holds("t=0", true);
        Probe probe = new Probe();
        probe.law("n(t=9999)");
        probe.goTo(9998);
        Due.is("t is 9998", probe.court.count(8), 0);
        probe.goTo(9999);
        Due.is("t is 9999", probe.court.count(8), 1);
    }

    // "h THE MINUTE through 60"
    private static void hourIsTheMinuteThrough60() {
        Probe probe = new Probe();
        probe.law("n(h=0)");
        probe.goTo(59);
        Due.is("at 59", probe.court.count(8), 1);
        probe.goTo(60);
        Due.is("at 60", probe.court.count(8), 0);
        probe.law("n(h=1)");
        probe.goTo(119);
        Due.is("at 119", probe.court.count(8), 1);
        probe.goTo(120);
        Due.is("at 120", probe.court.count(8), 0);
    }

    // "modulo 24"
    private static void hourIsModulo24() {
        Probe probe = new Probe();
        probe.law("n(h=23)");
        probe.goTo(1379);
        Due.is("at 1379", probe.court.count(8), 0);
        probe.goTo(1380);
        Due.is("at 1380", probe.court.count(8), 1);
        probe.goTo(1439);
        Due.is("at 1439", probe.court.count(8), 1);
        probe.law("n(h=0)");
        Due.is("not 0 at 1439", probe.court.count(8), 0);
        probe.goTo(1440);
        Due.is("0 at 1440", probe.court.count(8), 1);
    }

    // "j the JUDGE (in a, l)"
    private static void judgeInAAndL() {
        Probe probe = new Probe();
        probe.court.judge(0, 2, 2);
        probe.court.judge(1, 2, 5);
        probe.law("a2+j*2(0=0);l1+j(0=0)");
        Due.is("judge 0", probe.court.shade(3, 2), 1);
        Due.is("judge 0, no further", probe.court.shade(4, 2), 0);
        Due.is("judge 1", probe.court.shade(2, 4), 1);
        Due.is("judge 1, further", probe.court.shade(2, 3), 1);
    }

    // "f the FELON, w what it OWES, b its AWAY, s whether it is on stairs (1, 0; .. in v, o)"
    private static void felonInVAndO() {
        Probe probe = new Probe();
        probe.marketWith(9, "9.s");
        probe.court.felon(0, 8, 9, 999);
        probe.court.felon(9, 9, 9, 0);
        probe.law("v3(f=9&w=0&b=0&s=1);v2(f=0&w=999&b=0&s=0);v1(f=0&b=999)");
        Due.is("felon 9", probe.court.felonIs(9, 4), 3);
        Due.is("felon 0", probe.court.felonIs(0, 4), 2);
        probe.goTo(1200);
        Due.is("felon 0 away 999", probe.court.felonIs(0, 4), 1);
        Due.is("o of the second", goesFirst("f"), 1);
        Due.is("o of the first", goesFirst("9-f"), 0);
    }

    // "(Where they are not told they are 0.)"
    private static void notToldTheyAre0() {
        Probe probe = new Probe();
        probe.marketWith(5, "0s");
        probe.court.judge(1, 0, 5);
        probe.court.felon(7, 5, 5, 9);
        probe.court.minutes(1);
        probe.law("a2(f+w+b+s=0);l9(f+w+b+s=0);c10(j+f+w+b+s=0);n(j+f+w+b+s=0);v3(j=0)");
        Due.is("in a, l", probe.court.shade(9, 5), 1);
        Due.is("in c", probe.court.tried(9, 3), 9);
        Due.is("in n", probe.court.count(8), 1);
        Due.is("in v", probe.court.felonIs(7, 4), 3);
        Due.is("in o", goesFirst("f*j"), 0);
    }

    // The same, when a JUDGE or a FELON was told to another letter of THE LAW just ahead.
    private static void staleLettersAre0() {
        Probe probe = new Probe();
        probe.marketWith(5, "0s");
        probe.court.judge(1, 0, 5);
        probe.court.felon(7, 5, 5, 9);
        probe.law("v3(j=0);n(f+w+b+s+j=0);a2(w=0&f=0&s=0);l1(w=0&f=0&s=0)");
        Due.is("a shadow of judge 1", probe.court.shade(1, 5), 1);
        Due.is("v behind it", probe.court.felonIs(7, 4), 3);
        Due.is("night behind v", probe.court.count(8), 1);
        Due.is("v once more", probe.court.felonIs(7, 4), 3);
        Due.is("a shadow behind v", probe.court.shade(1, 5), 1);
        Due.is("night behind a shadow", probe.court.count(8), 1);
    }

    // "All is reckoned with 32 bits, as the machine does": sums, differences, products wrap around
    private static void wrapsWith32Bits() {
        holds("65536*32767+65535>0", true);
        holds("65536*32767+65535+1<0", true);
        holds("0-65536*32767-65535-1<0", true);
        holds("0-65536*32767-65535-2>0", true);
        holds("0-65536*32767-65535-2=65536*32767+65535", true);
        holds("65536*65536=0", true);
        holds("65536*65535=0-65536", true);
        holds("65536*32768=0-65536*32768", true);
        holds("99999*99999=14098*10000*10+65409", true);
    }

    // "as the machine does": towards 0, the remainder with the sign of what is divided
    private static void dividesAsTheMachineDoes() {
        holds("[0-7]/2=0-3", true);
        holds("7/[0-2]=0-3", true);
        holds("[0-7]/[0-2]=3", true);
        holds("[0-7]%2=0-1", true);
        holds("7%[0-2]=1", true);
        holds("[0-7]%[0-2]=0-1", true);
        holds("0/5=0", true);
        holds("7/1=7", true);
        holds("7/[0-1]=0-7", true);
        holds("7%1=0", true);
        holds("1/99999=0", true);
    }

    // The same, of the one quotient that does not fit.
    private static void leastNumberThroughMinusOne() {
        holds("65536*32768/[0-1]=65536*32768", true);
        holds("65536*32768/[0-1]<0", true);
        holds("65536*32768%[0-1]=0", true);
        Due.is("in an E", reach("v65536*32768/[0-1]+3+65536*32768(0=0)"), 3);
    }

    // "what is divided by 0 is REFUSED: .. an E is 0"
    private static void dividedBy0InAnExpression() {
        Due.is("3/0", reach("v3/0(0=0);v2(0=0)"), 0);
        Due.is("3%0", reach("v3%0(0=0);v2(0=0)"), 0);
        Due.is("3+1/0", reach("v3+1/0(0=0)"), 0);
        Due.is("1/0+3", reach("v1/0+3(0=0)"), 0);
        Due.is("0*[1/0]+3", reach("v0*[1/0]+3(0=0)"), 0);
        Due.is("3/[2-2]", reach("v3/[2-2](0=0)"), 0);
        Due.is("3/t", reach("v3/t(0=0)"), 0);
        Due.is("0/0", reach("v0/0+3(0=0)"), 0);
    }

    // "then the C as a whole does not hold"
    private static void dividedBy0InACondition() {
        holds("1/0=0", false);
        holds("1%0=0", false);
        holds("0=1/0", false);
        holds("0<1/0", false);
        holds("1=1&0=1%0", false);
        holds("[0*[1/0]]=0", false);
    }

    // "(through any !, ( ) and |)"
    private static void throughNotRoundsAndParts() {
        holds("!1/0=0", false);
        holds("!!1/0=0", false);
        holds("!(1/0=0)", false);
        holds("(1/0=0)", false);
        holds("1/0=0|0=0", false);
        holds("(1/0=0)|0=0", false);
        holds("(!(1/0=0|0=0)|0=0)|0=0", false);
        holds("0=0&1/0=0|0=0", false);
    }

    // "the C as a whole": of that CLAUSE alone
    private static void refusedIsNotTheEnd() {
        Due.is("the next v", reach("v1(1/0=0);v2(0=0)"), 2);
        Probe probe = new Probe();
        probe.law("n(1/0=0);n(0=0)");
        Due.is("the next n", probe.court.count(8), 1);
        probe.law("n(0=1);n(1%0=0)");
        Due.is("no n is left", probe.court.count(8), 0);
    }

    // "Of a C as much is asked, from the left, as matters."
    private static void asMuchIsAskedAsMatters() {
        holds("0=0|1/0=0", true);
        holds("0=1&1/0=0", false);
        holds("0=1&1/0=0|0=0", true);
        holds("!(0=1&1/0=0)", true);
        holds("!(0=0|1/0=0)", false);
        holds("(0=0|1/0=0)&0=0", true);
        holds("(0=1&1/0=0)|0=0", true);
        holds("0=1|0=0|1/0=0", true);
        holds("0=0&0=1&1/0=0|0=0", true);
        holds("0=1&(1/0=0|0=0)|0=0", true);
        holds("0=1|1/0=0", false);
        holds("0=0&1/0=0", false);
    }
}
