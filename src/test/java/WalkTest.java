/** Promise 6: walk, and how JUDGES go. */
public final class WalkTest {
    public static void main(String[] args) {
        countsSteps();
        tellsFaults();
        refuses();
        goes();
        isHeldUp();
        ofJudgesNotTold();
        Due.end("WalkTest");
    }

    private static void countsSteps() {
        Probe probe = new Probe();
        Due.is("n", probe.walk(0, "n"), 1);
        Due.is("rounds", probe.walk(0, "3n2(e.)"), 7);
        Due.is("rounds in rounds", probe.walk(0, "2(2(n)e)w"), 7);
        Due.is("rounds once", probe.walk(0, "((n))"), 1);
        Due.is("59", probe.walk(0, "6(9n)5n"), 59);
        Due.is("60", probe.walk(0, "6(9n)2(3n)"), 60);
        Due.is("60 in rounds", probe.walk(1, "6(2(5n))"), 60);
        Due.is("left of the one", probe.court.count(20), 60);
        Due.is("20 bytes, all there are", probe.walk(0, "nesw.".repeat(4)), 20);
        Due.is("60 signs", probe.walk(0, "nesw.".repeat(12)), 60);
        Due.is("80 bytes", probe.walk(0, "(" + "(n)".repeat(26) + ")"), 26);
    }

    private static void tellsFaults() {
        Probe probe = new Probe();
        probe.walk(0, "5n");
        fault(probe, "x", -1000);
        fault(probe, " n", -1000);
        fault(probe, "1n", -1000);
        fault(probe, "0n", -1000);
        fault(probe, ")", -1000);
        fault(probe, "3", -1001);
        fault(probe, "23n", -1001);
        fault(probe, "()", -1001);
        fault(probe, "2)", -1001);
        fault(probe, "n)", -1001);
        fault(probe, "nA", -1001);
        fault(probe, "(n", -1002);
        fault(probe, "(n))", -1003);
        fault(probe, "(((n", -5002);
        fault(probe, "(2(n3(n)))", -5005);
        fault(probe, "6(9n)7n", -6005);
        fault(probe, "7(9n)", -6000);
        fault(probe, "6(9n)2(4n)", -6005);
        fault(probe, "6(9n)6nn", -6007);
        fault(probe, "6(9n)2(7n)", -6007);
        fault(probe, "2(7(9n))", -6002);
        fault(probe, "2(6(9n)x", -1007);
        fault(probe, "n".repeat(61), -6060);
        fault(probe, "n".repeat(60) + "x", -1060);
        fault(probe, "n".repeat(60) + "2", -1061);
        Due.is("the one before stays", probe.court.count(20), 5);
        Due.is("the tape is empty behind a fault", probe.court.count(6), 0);
    }

    private static void fault(Probe probe, String text, int want) {
        Due.is("walk of " + text, probe.walk(0, text), want);
    }

    private static void refuses() {
        Probe probe = new Probe();
        probe.feed("nnnn");
        Due.is("no such judge", probe.court.walk(2, 1), -1);
        Due.is("no such judge", probe.court.walk(-1, 1), -1);
        Due.is("walk(0, 0)", probe.court.walk(0, 0), -1);
        Due.is("walk(0, 21)", probe.court.walk(0, 21), -1);
        Due.is("the tape stays", probe.court.count(6), 20);
        Due.is("walk(0, 4)", probe.court.walk(0, 4), 4);
        for (int i = 0; i < 5; i++) {
            probe.court.feed(0x6e6e6e6e, 0x6e6e6e6e, 0x6e6e6e6e, 0x6e6e6e6e, 0x6e6e6e6e);
        }
        Due.is("walk(0, 81)", probe.court.walk(0, 81), -1);
        Due.is("walk(0, 80)", probe.court.walk(0, 80), -6060);
    }

    private static void goes() {
        Probe probe = new Probe();
        ShadowCourt court = probe.court;
        court.judge(0, 5, 5);
        probe.walk(0, "2(ne).3s2w");
        int[] spots = {65, 66, 76, 77, 77, 67, 57, 47, 46, 45, 45};
        for (int i = 0; i < spots.length; i++) {
            Due.is("behind " + (i + 1) + " steps", court.tried(i + 1, 30), spots[i]);
            Due.is("steps left", court.count(20), 10);
        }
        court.minutes(4);
        Due.is("steps left", court.count(20), 6);
        Due.is("in place of what is left", probe.walk(0, "2e"), 2);
        court.minutes(120);
        Due.is("with none left it stays", court.count(10), 79);
        Due.is("none left", court.count(20), 0);
    }

    private static void isHeldUp() {
        Probe probe = new Probe();
        ShadowCourt court = probe.court;
        probe.marketWith(0, "..#r6.", 1, ".s8.");
        court.judge(0, 1, 0);
        probe.walk(0, "esnn");
        Due.is("a wall", court.tried(1, 30), 1);
        Due.is("the market's end", court.tried(2, 30), 1);
        Due.is("onto stairs", court.tried(3, 30), 11);
        court.judge(0, 4, 0);
        Due.is("a step into the river is lost, too", probe.walk(0, "wn"), 2);
        court.minutes(1);
        Due.is("the river", court.count(10), 4);
        Due.is("the step is done", court.count(20), 1);
        court.judge(0, 5, 5);
        court.judge(1, 6, 5);
        probe.walk(0, "e");
        probe.walk(1, "e");
        Due.is("judge 0 goes first, onto the other one", court.tried(1, 30), 55);
        Due.is("judge 1 goes on", court.tried(1, 31), 57);
        probe.walk(0, "w");
        probe.walk(1, "w");
        Due.is("judge 0 goes", court.tried(1, 30), 54);
        Due.is("judge 1 follows at once", court.tried(1, 31), 55);
    }

    private static void ofJudgesNotTold() {
        Probe probe = new Probe();
        Due.is("a walk of nobody", probe.walk(1, "5n"), 5);
        probe.court.minutes(3);
        Due.is("nobody goes it", probe.court.count(21), 5);
    }
}
