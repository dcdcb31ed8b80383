/** Promise 22: servedBy. */
public final class ServedByTest {
    public static void main(String[] args) {
        Probe probe = Probe.eastward();
        ShadowCourt court = probe.court;
        Due.is("nobody is told", court.servedBy(1, 2), -1);
        court.judge(1, 2, 2);
        court.felon(0, 3, 2, 9);
        court.felon(1, 5, 2, 9);
        Due.is("judge 0 is not told", court.servedBy(1, 0), -1);
        Due.is("judge 1 is", court.servedBy(1, 1), 2);
        Due.is("both are not told", court.servedBy(1, 2), -1);
        court.judge(0, 4, 2);
        Due.is("n 0", court.servedBy(0, 0), -1);
        Due.is("n 61", court.servedBy(61, 0), -1);
        Due.is("what -1", court.servedBy(1, -1), -1);
        Due.is("what 3", court.servedBy(1, 3), -1);
        // shadows of 0: 25 26 27; of 1: 23 24 25
        Due.is("judge 0 alone", court.servedBy(1, 0), 2);
        Due.is("judge 1 alone", court.servedBy(1, 1), 2);
        Due.is("both", court.servedBy(1, 2), 3);
        Due.is("as it is tried", court.tried(1, 0), 3);
        Due.is("60 minutes", court.servedBy(60, 2), 18);
        // alone it goes where the other one stands; felons can make no step
        probe.law("a2(1=1);l3(1=1)");
        court.judge(0, 3, 3);
        court.judge(1, 4, 3);
        probe.walk(0, "5e");
        court.felon(0, 9, 3, 9);
        court.felon(1, 0, 0, 0);
        Due.is("judge 0 alone", court.servedBy(5, 0), 3);
        Due.is("judge 0 held up", court.servedBy(5, 2), 0);
        Due.is("judge 1 alone", court.servedBy(5, 1), 0);
        Due.is("nothing has changed", court.count(0), 0);
        Due.is("both are there", court.count(1), 3);
        // the same draws for each
        probe.law("a2(1=1);l9(1=1);v3(1=1);c5(1=1)");
        int sunny = 20 - court.tried(20, 3);
        court.felon(0, 9, 3, 999);
        Due.is("clouds for judge 1 alone", court.servedBy(20, 1), sunny);
        Due.is("clouds for both", court.servedBy(20, 2), 2 * sunny);
        Due.end("ServedByTest");
    }
}
