/** Promise 4: law, and how THE LAW is asked. */
public final class LawTest {
    public static void main(String[] args) {
        countsClauses();
        tellsFaults();
        tellsDepth();
        refuses();
        reckons();
        asksConditions();
        isRefusedByZero();
        takesTheFirstClause();
        keepsBounds();
        tellsLetters();
        Due.end("LawTest");
    }

    private static void countsClauses() {
        Probe probe = new Probe();
        Due.is("one", probe.law("a5(t=0)"), 1);
        Due.is("three", probe.law("a5(t=0);n(t>1);v3(w>2)"), 3);
        Due.is("count", probe.court.count(5), 3);
        Due.is("all signs", probe.law("at+h*j-f/w%b(s<t&!j=f|(w>b))"), 1);
        Due.is("sixteen", probe.law("n(t=0)" + ";n(t=0)".repeat(15)), 16);
        Due.is("each kind", probe.law("a1(t=0);l1(t=0);c1(t=0);n(t=0);v1(t=0);o1(t=0)"), 6);
        Due.is("20 bytes, all there are", probe.law("l1234" + "+1".repeat(5) + "(t=0)"), 1);
        Due.is("240 bytes", probe.law("l11" + "+1".repeat(116) + "(t=t)"), 1);
    }

    private static void tellsFaults() {
        Probe probe = new Probe();
        probe.law("n(t=0);n(t=0)");
        fault(probe, "x5(t=0)", -1000);
        fault(probe, ";", -1000);
        fault(probe, "a", -1001);
        fault(probe, "l(t=0)", -1001);
        fault(probe, "n5(t=0)", -1001);
        fault(probe, "c5", -1002);
        fault(probe, "c5;", -1002);
        fault(probe, "v5(t", -1004);
        fault(probe, "v5(t)", -1004);
        fault(probe, "o5(t=", -1005);
        fault(probe, "o5(t=0", -1006);
        fault(probe, "o5(t=0=0)", -1006);
        fault(probe, "a5(c=0)", -1003);
        fault(probe, "a5()", -1003);
        fault(probe, "a5(t=0)x", -1007);
        fault(probe, "a5(t=0);", -1008);
        fault(probe, "a5 (t=0)", -1002);
        fault(probe, "a5+(t=0)", -1003);
        fault(probe, "a-5(t=0)", -1001);
        fault(probe, "a[5(t=0)", -1003);
        fault(probe, "a5](t=0)", -1002);
        fault(probe, "n(!)", -1003);
        fault(probe, "n((t=0)", -1007);
        fault(probe, "n((t)=0)", -1004);
        fault(probe, "n(t=0&)", -1006);
        fault(probe, "n(t=0|&t=0)", -1006);
        fault(probe, "n(t+!t=0)", -1004);
        fault(probe, "n(t=0)" + (char) 233, -1006);
        fault(probe, "a123456(t=0)", -2006);
        fault(probe, "a1+123456(t=0)", -2008);
        fault(probe, "a000001(t=0)", -2006);
        fault(probe, "a99999(t=0)x", -1011);
        fault(probe, "n(t=0)" + ";n(t=0)".repeat(15) + ";n", -4112);
        fault(probe, "n(t=0)" + ";n(t=0)".repeat(15) + ";t", -1112);
        fault(probe, "n(t=0)" + ";n(t=0)".repeat(15) + ";", -1112);
        Due.is("the one before stays", probe.court.count(5), 2);
        Due.is("the tape is empty behind a fault", probe.court.count(6), 0);
    }

    private static void tellsDepth() {
        Probe probe = new Probe();
        Due.is("six rounds", probe.law("n((((((t=0))))))"), 1);
        fault(probe, "n(((((((t=0)))))))", -5007);
        Due.is("five nots", probe.law("n(!!!!!t=0)"), 1);
        fault(probe, "n(!!!!!!t=0)", -5007);
        fault(probe, "n(!!!!!(t=0))", -5007);
        Due.is("a bracket is the sixth", probe.law("n(!!!![t]=0)"), 1);
        Due.is("and once more, for a ! is over", probe.law("n(!!!![t]=[0]&!!!![t]=0)"), 1);
        fault(probe, "n(!!!!![t]=0)", -5007);
        fault(probe, "n(t=[[[[[[t]]]]]])", -5009);
        Due.is("E stands ahead of the (", probe.law("l[[[[[[5]]]]]]((((((t=0))))))"), 1);
        fault(probe, "l[[[[[[[5]]]]]]](t=0)", -5007);
        fault(probe, "n(t=0((((((((", -1005);
    }

    private static void fault(Probe probe, String text, int want) {
        Due.is("law of " + text, probe.law(text), want);
    }

    private static void refuses() {
        Probe probe = new Probe();
        probe.feed("n(t=0)");
        Due.is("law(0)", probe.court.law(0), -1);
        Due.is("law(-5)", probe.court.law(-5), -1);
        Due.is("law(21)", probe.court.law(21), -1);
        Due.is("the tape stays", probe.court.count(6), 20);
        Due.is("law(6)", probe.court.law(6), 1);
        for (int i = 0; i < 13; i++) {
            probe.court.feed(0, 0, 0, 0, 0);
        }
        Due.is("law(241)", probe.court.law(241), -1);
        Due.is("law(240)", probe.court.law(240), -1000);
    }

    /** What an E comes to, as a felon's v would be or o, by how it stands to a number. */
    private static void reckons() {
        same("2+3*4", "14");
        same("[2+3]*4", "20");
        same("20-3-4", "13");
        same("20/3/2", "3");
        same("20/3*2", "12");
        same("17%10%4", "3");
        same("2*7%4", "2");
        same("7+8/3-2*2", "5");
        same("0-7/2", "0-3");
        same("[0-7]/2", "0-3");
        same("[0-7]%2", "0-1");
        same("00012", "12");
        same("65536*65536", "0");
        same("65536*32768", "0-65536*32768");
        same("[65536*32768-1]+1", "0-65536*32768");
        same("65536*32768/[0-1]", "65536*32768");
        same("65536*32768%[0-1]", "0");
        same("99999*99999", "1409865409");
    }

    private static void same(String left, String right) {
        // a number has at most five digits
        String plain = right.equals("1409865409") ? "14098*10000*10+65409" : right;
        holds(left + "=" + plain, true);
        holds("!" + left + "=" + plain, false);
        holds(left + "<" + plain + "|" + left + ">" + plain, false);
    }

    private static void holds(String condition, boolean want) {
        Probe probe = new Probe();
        Due.is("law with " + condition, probe.law("n(" + condition + ")"), 1);
        Due.is(condition, probe.court.count(8), want ? 1 : 0);
    }

    private static void asksConditions() {
        holds("1<2", true);
        holds("2<2", false);
        holds("2>1", true);
        holds("2>2", false);
        holds("2=2", true);
        holds("1=2|3=3", true);
        holds("1=1&2=3", false);
        holds("1=2|1=1&2=2", true);
        holds("1=1|1=1&2=3", true);
        holds("(1=1|1=1)&2=3", false);
        holds("!1=2", true);
        holds("!1=1|1=1", true);
        holds("!(1=1|1=1)", false);
        holds("!!1=1", true);
        holds("!1=2&1=2", false);
        holds("1=1&1=1&1=2|1=2|1=1&1=1", true);
    }

    private static void isRefusedByZero() {
        holds("1/0=0", false);
        holds("1%0=0", false);
        holds("!1/0=0", false);
        holds("1/0=0|1=1", false);
        holds("(!(1/0=0))|1=1", false);
        holds("1=1|1/0=0", true);
        holds("1=2&1/0=0|1=1", true);
        holds("1=2&1/0=0", false);
        holds("!(1=2&1/0=0)", true);
        holds("1=1&1/0=0|1=1", false);
        holds("1=1/0", false);
        Probe probe = Probe.eastward();
        probe.court.felon(0, 5, 5, 7);
        probe.law("v3/0(1=1);v2(1=1)");
        Due.is("an E that is refused is 0", probe.court.felonIs(0, 4), 0);
        probe.law("v3(1/0=1);v2(1=1)");
        Due.is("a C that is refused does not hold", probe.court.felonIs(0, 4), 2);
        probe.law("n(1/0=1);n(1=1)");
        Due.is("the next n will do", probe.court.count(8), 1);
    }

    private static void takesTheFirstClause() {
        Probe probe = new Probe();
        probe.court.felon(0, 5, 5, 7);
        probe.law("v1(1=2);a7(1=1);v2(1=1);v3(1=1)");
        Due.is("the first that holds", probe.court.felonIs(0, 4), 2);
        probe.law("v1(1=2)");
        Due.is("none holds", probe.court.felonIs(0, 4), 0);
        probe.law("n(1=2);n(1=1);n(1=2)");
        Due.is("any n will do", probe.court.count(8), 1);
        probe.law("n(1=2)");
        Due.is("no n holds", probe.court.count(8), 0);
        probe.law("a1(1=1)");
        Due.is("without an n", probe.court.count(8), 0);
    }

    private static void keepsBounds() {
        Probe probe = new Probe();
        ShadowCourt court = probe.court;
        court.felon(0, 5, 5, 7);
        court.judge(0, 0, 0);
        probe.law("v4(1=1)");
        Due.is("v above", court.felonIs(0, 4), 3);
        probe.law("v0-1(1=1)");
        Due.is("v below", court.felonIs(0, 4), 0);
        probe.law("a2(1=1);l99(1=1)");
        Due.is("l above", court.atOnce(1), 9);
        probe.law("a2(1=1);l0-4(1=1)");
        Due.is("l below", court.atOnce(1), 0);
        court.judge(0, 5, 5);
        probe.law("a8(1=1);l1(1=1)");
        Due.is("a above is 7", court.shade(4, 6), 1);
        probe.law("a0-3(1=1);l1(1=1)");
        Due.is("a below is 0", court.shade(5, 6), 1);
        probe.law("c11(1=1)");
        Due.is("c above", court.tried(120, 3), 120);
        probe.law("c0-1(1=1)");
        Due.is("c below", court.tried(120, 3), 0);
    }

    private static void tellsLetters() {
        Probe probe = new Probe();
        ShadowCourt court = probe.court;
        probe.marketWith(6, "5.s4.");
        court.felon(3, 5, 5, 7);
        court.felon(4, 5, 6, 8);
        court.judge(0, 1, 1);
        court.judge(1, 1, 3);
        probe.law("v3(f=3&w=7&b=0&s=0&j=0);v2(f=4&w=8&s=1);n(f=0&w=0&b=0&s=0&j=0)");
        Due.is("f w b s of the one", court.felonIs(3, 4), 3);
        Due.is("f w b s of the other", court.felonIs(4, 4), 2);
        Due.is("in n they are 0", court.count(8), 1);
        probe.law("a2(f=0&w=0&b=0&s=0);l1+j(1=1)");
        Due.is("l of judge 0", court.shade(3, 1), 0);
        Due.is("l of judge 1", court.shade(3, 3), 1);
        probe.law("a2+j*2(1=1);l1(1=1)");
        Due.is("a of judge 0", court.shade(2, 1), 1);
        Due.is("a of judge 1", court.shade(1, 2), 1);
        court.minutes(2);
        probe.law("v3(b=2&t=2)");
        Due.is("b and t", court.felonIs(3, 4), 3);
        probe.law("n(h=1&t=60)");
        probe.goTo(59);
        Due.is("h is 0", court.count(8), 0);
        probe.goTo(60);
        Due.is("h is 1", court.count(8), 1);
        probe.law("n(h=23)");
        probe.goTo(1439);
        Due.is("h is 23", court.count(8), 1);
        probe.law("n(h=0)");
        Due.is("h is not yet 0", court.count(8), 0);
        probe.goTo(1440);
        Due.is("h is 0 again", court.count(8), 1);
    }
}
