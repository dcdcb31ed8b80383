/** Promise 17: dark. */
public final class DarkTest {
    public static void main(String[] args) {
        refuses();
        counts();
        isDarkWithoutJudges();
        isWithoutClouds();
        mindsTheFirstSpot();
        hasNoSpots();
        Due.end("DarkTest");
    }

    private static void asked(String what, Probe probe, int n, int none, int spot, int most) {
        Due.is(what + ", in none of " + n, probe.court.dark(n, 0), none);
        Due.is(what + ", spot in most of " + n, probe.court.dark(n, 1), spot);
        Due.is(what + ", in how many of " + n, probe.court.dark(n, 2), most);
    }

    private static void refuses() {
        Probe probe = Probe.eastward();
        Due.is("n 0", probe.court.dark(0, 0), -1);
        Due.is("n 61", probe.court.dark(61, 0), -1);
        Due.is("what -1", probe.court.dark(1, -1), -1);
        Due.is("what 3", probe.court.dark(1, 3), -1);
        Due.is("n 60", probe.court.dark(60, 0), 100);
    }

    private static void counts() {
        Probe probe = Probe.eastward();
        ShadowCourt court = probe.court;
        court.judge(0, 2, 2);
        asked("it stays", probe, 1, 97, 23, 1);
        asked("it stays", probe, 60, 97, 23, 60);
        probe.walk(0, "2e");
        asked("behind its step", probe, 1, 97, 24, 1);
        asked("it goes on", probe, 2, 96, 25, 2);
        asked("it goes on", probe, 3, 96, 25, 3);
        court.judge(0, 1, 2);
        court.judge(1, 2, 2);
        probe.walk(0, ".");
        asked("in both is once a minute", probe, 2, 96, 22, 2);
        probe.law("a2(t%2=0);a0(1=1);l1(1=1)");
        asked("by the law of each minute", probe, 2, 96, 22, 1);
        Due.is("nothing has changed", court.count(0), 0);
        Due.is("no step was taken", court.count(20), 1);
    }

    private static void isDarkWithoutJudges() {
        Probe probe = new Probe();
        probe.marketWith(0, "3#7.");
        asked("the lowest without a wall", probe, 5, 97, 3, 0);
    }

    private static void isWithoutClouds() {
        Probe probe = new Probe();
        ShadowCourt court = probe.court;
        probe.marketWith(2, "4.r#4.");
        probe.law("a2(1=1);l9(1=1);c10(1=1);n(1=1)");
        court.judge(0, 2, 2);
        court.lamp(0, 2, 4);
        asked("no clouds, no lamps, up to the wall", probe, 3, 97, 23, 3);
    }

    private static void mindsTheFirstSpot() {
        Probe probe = new Probe();
        probe.law("a6(1=1);l1(1=1)");
        probe.court.judge(0, 1, 0);
        asked("in spot 0", probe, 9, 99, 0, 9);
        asked("and once more", probe, 4, 99, 0, 4);
    }

    private static void hasNoSpots() {
        Probe probe = new Probe();
        probe.market("0#/0#/0#/0#/0#/0#/0#/0#/0#/0#");
        asked("all walls", probe, 7, 0, -2, 0);
    }
}
