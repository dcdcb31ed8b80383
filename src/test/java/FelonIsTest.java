/** Promise 11: felonIs. */
public final class FelonIsTest {
    public static void main(String[] args) {
        Probe probe = new Probe();
        ShadowCourt court = probe.court;
        probe.marketWith(7, "3.s6.");
        probe.law("a2(1=1);l3(1=1);v1+s(f=2);v3(w>8);c10(1=1)");
        court.felon(2, 3, 7, 5);
        court.felon(3, 4, 2, 9);
        court.judge(0, 2, 2);
        court.judge(1, 3, 2);
        Due.is("spot", court.felonIs(2, 0), 73);
        Due.is("owed", court.felonIs(2, 1), 5);
        Due.is("away", court.felonIs(2, 2), 0);
        Due.is("drowned", court.felonIs(2, 3), 0);
        Due.is("v on stairs", court.felonIs(2, 4), 2);
        Due.is("v of another", court.felonIs(3, 4), 3);
        Due.is("in no shadow", court.felonIs(2, 5), 0);
        Due.is("in two shadows, clouds or not", court.felonIs(3, 5), 2);
        court.minutes(4);
        Due.is("away in clouds", court.felonIs(2, 2), 4);
        Due.is("what -1", court.felonIs(2, -1), -1);
        Due.is("what 6", court.felonIs(2, 6), -1);
        Due.is("not told", court.felonIs(1, 0), -1);
        Due.is("no such felon", court.felonIs(10, 0), -1);
        Due.is("no such felon", court.felonIs(-1, 0), -1);
        Due.end("FelonIsTest");
    }
}
