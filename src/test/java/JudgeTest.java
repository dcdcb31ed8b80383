/** Promise 5: judge. */
public final class JudgeTest {
    public static void main(String[] args) {
        Probe probe = new Probe();
        ShadowCourt court = probe.court;
        probe.marketWith(0, "#sr7.");
        Due.no("no such judge", court.judge(2, 3, 0));
        Due.no("no such judge", court.judge(-1, 3, 0));
        Due.no("x 10", court.judge(0, 10, 0));
        Due.no("x -1", court.judge(0, -1, 1));
        Due.no("y 10", court.judge(0, 3, 10));
        Due.no("y -1", court.judge(0, 3, -1));
        Due.no("a wall", court.judge(0, 0, 0));
        Due.no("the river", court.judge(0, 2, 0));
        Due.is("nobody yet", court.count(1), 0);
        Due.yes("on stairs", court.judge(0, 1, 0));
        Due.no("the other one is there", court.judge(1, 1, 0));
        Due.yes("elsewhere", court.judge(1, 9, 9));
        Due.yes("where it is", court.judge(1, 9, 9));
        Due.yes("to another spot", court.judge(1, 8, 9));
        Due.is("both", court.count(1), 3);
        Due.is("spot 0", court.count(10), 1);
        Due.is("spot 1", court.count(11), 98);
        keepsItsWalk();
        Due.end("JudgeTest");
    }

    private static void keepsItsWalk() {
        Probe probe = new Probe();
        ShadowCourt court = probe.court;
        probe.walk(0, "2n3e");
        Due.yes("told", court.judge(0, 0, 0));
        Due.is("steps of a walk told ahead", court.count(20), 5);
        court.minutes(3);
        Due.is("spot behind n n e", court.count(10), 21);
        Due.yes("put elsewhere", court.judge(0, 5, 5));
        Due.is("steps left", court.count(20), 2);
        court.minutes(1);
        Due.is("goes on from where it is", court.count(10), 56);
    }
}
