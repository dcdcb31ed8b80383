/** Promises 7 (felon) and 8 (lamp). */
public final class FelonAndLampTest {
    public static void main(String[] args) {
        felons();
        aFelonInPlaceOfAnother();
        lamps();
        Due.end("FelonAndLampTest");
    }

    private static void felons() {
        Probe probe = new Probe();
        ShadowCourt court = probe.court;
        probe.marketWith(0, "#sr7.");
        Due.no("no such felon", court.felon(10, 3, 0, 0));
        Due.no("no such felon", court.felon(-1, 3, 0, 0));
        Due.no("a wall", court.felon(0, 0, 0, 5));
        Due.no("the river", court.felon(0, 2, 0, 5));
        Due.no("x 10", court.felon(0, 10, 0, 5));
        Due.no("y -1", court.felon(0, 3, -1, 5));
        Due.no("owes 1000", court.felon(0, 3, 0, 1000));
        Due.no("owes -1", court.felon(0, 3, 0, -1));
        Due.is("nobody yet", court.count(2), 0);
        Due.yes("on stairs", court.felon(0, 1, 0, 999));
        Due.yes("at the same spot", court.felon(9, 1, 0, 0));
        Due.is("told", court.count(2), 1 + 512);
        Due.is("owed", court.count(4), 999);
        court.judge(0, 5, 5);
        Due.yes("at a judge's spot", court.felon(1, 5, 5, 3));
    }

    private static void aFelonInPlaceOfAnother() {
        Probe probe = new Probe();
        ShadowCourt court = probe.court;
        probe.marketWith(5, "6.r3.");
        probe.law("a2(1=1);l1(1=1);v3(1=1)");
        court.felon(0, 6, 6, 5);
        court.minutes(2);
        Due.is("away", court.felonIs(0, 2), 2);
        court.judge(0, 5, 5);
        court.minutes(1);
        Due.is("drowned", court.felonIs(0, 3), 1);
        Due.yes("in its place", court.felon(0, 1, 1, 7));
        Due.is("its spot", court.felonIs(0, 0), 11);
        Due.is("its owed", court.felonIs(0, 1), 7);
        Due.is("its away", court.felonIs(0, 2), 0);
        Due.is("not drowned", court.felonIs(0, 3), 0);
    }

    private static void lamps() {
        Probe probe = new Probe();
        ShadowCourt court = probe.court;
        probe.marketWith(0, "#sr7.");
        Due.no("no such lamp", court.lamp(4, 3, 0));
        Due.no("no such lamp", court.lamp(-1, -1, 0));
        Due.no("a wall", court.lamp(0, 0, 0));
        Due.no("the river", court.lamp(0, 2, 0));
        Due.no("x 10", court.lamp(0, 10, 0));
        Due.no("x -2", court.lamp(0, -2, 0));
        Due.no("y 10", court.lamp(0, 3, 10));
        Due.yes("on stairs", court.lamp(0, 1, 0));
        Due.yes("at the same spot", court.lamp(3, 1, 0));
        Due.is("told", court.count(3), 9);
        Due.is("spot", court.count(33), 1);
        Due.yes("moved", court.lamp(3, 9, 9));
        Due.is("spot", court.count(33), 99);
        Due.yes("no more", court.lamp(0, -1, 5));
        Due.yes("no more, at no spot", court.lamp(3, -1, 77));
        Due.yes("which was not there", court.lamp(2, -1, 0));
        Due.is("told", court.count(3), 0);
        Due.is("spot", court.count(30), -1);
    }
}
