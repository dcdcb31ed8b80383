/** Promise 16: first. */
public final class FirstTest {
    public static void main(String[] args) {
        refuses();
        putsOneAhead();
        takesTheLowest();
        leavesOutWhoNeedNot();
        Due.end("FirstTest");
    }

    private static void refuses() {
        Probe probe = Probe.eastward();
        ShadowCourt court = probe.court;
        Due.is("n 0", court.first(0, 0), -1);
        Due.is("n 61", court.first(61, 0), -1);
        Due.is("what -1", court.first(1, -1), -1);
        Due.is("what 2", court.first(1, 2), -1);
        Due.is("nobody is told", court.first(60, 0), -2);
        Due.is("nothing is served", court.first(60, 1), 0);
    }

    private static void putsOneAhead() {
        Probe probe = new Probe();
        ShadowCourt court = probe.court;
        probe.law("a2(1=1);l2(1=1);v2(1=1)");
        court.judge(0, 2, 2);
        // 23 and 24: felon 1 can reach 23 alone, felon 0 takes it first
        court.felon(0, 3, 3, 9);
        court.felon(1, 2, 3, 9);
        Due.is("as it is, one serves", court.tried(1, 0), 1);
        Due.is("felon 1 ahead", court.first(1, 0), 1);
        Due.is("then both serve", court.first(1, 1), 2);
        Due.is("in three minutes", court.first(3, 1), 6);
        probe.law("a2(1=1);l2(1=1);v2(1=1);of(1=1)");
        Due.is("by o it is ahead anyway", court.first(1, 0), -2);
        Due.is("both serve", court.first(1, 1), 2);
        Due.is("nothing has changed", court.count(0), 0);
        Due.is("nor X", court.count(7), 1);
    }

    private static void takesTheLowest() {
        Probe probe = new Probe();
        ShadowCourt court = probe.court;
        probe.law("a2(1=1);l2(1=1);v2(1=1);o9(f=5);o0(1=1)");
        court.judge(0, 2, 2);
        court.felon(5, 3, 3, 9);
        court.felon(6, 2, 3, 9);
        court.felon(7, 2, 3, 9);
        Due.is("6 and 7 are alike", court.first(2, 0), 6);
        Due.is("served", court.first(2, 1), 4);
    }

    private static void leavesOutWhoNeedNot() {
        Probe probe = new Probe();
        ShadowCourt court = probe.court;
        probe.marketWith(1, "2.r7.");
        probe.law("a2(1=1);l1(1=1);v3(1=1)");
        court.judge(0, 1, 1);
        court.felon(0, 2, 2, 5);
        court.felon(1, 3, 1, 0);
        Due.is("felon 0 drowns as it is", court.first(9, 1), 1);
        Due.is("nobody makes it more", court.first(9, 0), -2);
        court.minutes(1);
        Due.is("the drowned and who owes nothing are not asked", court.first(9, 0), -2);
        court.felon(2, 3, 1, 5);
        Due.is("one more drowns", court.first(9, 1), 1);
    }
}
