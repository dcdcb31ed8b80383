/** Promise 19: prints. */
public final class PrintsTest {
    public static void main(String[] args) {
        refuses();
        tellsWhoMadeThem();
        tellsWhereItFails();
        mindsWallsAndRiver();
        Due.end("PrintsTest");
    }

    private static void refuses() {
        Probe probe = new Probe();
        ShadowCourt court = probe.court;
        probe.feed(1, 1, 1);
        Due.is("n 1", court.prints(1, 0), -1);
        Due.is("n 21", court.prints(21, 0), -1);
        Due.is("what -1", court.prints(2, -1), -1);
        Due.is("what 2", court.prints(2, 2), -1);
        Due.is("the tape stays", court.count(6), 20);
        Due.is("nobody", court.prints(3, 0), 0);
        Due.is("the tape is empty then", court.count(6), 0);
        Due.is("not so many", court.prints(2, 0), -1);
        Due.is("nobody is told", probe.prints(1, 5, 5), -4);
        Due.is("21 spots that are there", probe.prints(0, new int[21]), -1);
        Due.is("20 spots", probe.prints(0, new int[20]), 0);
        Due.is("no such spot", probe.prints(0, 5, 100), -3);
        Due.is("no such spot, nobody told", probe.prints(1, 255, 5), -3);
        Due.is("the tape is empty then", court.count(6), 0);
        court.felon(0, 9, 9, 0);
        Due.is("spot 99", probe.prints(0, 99, 99), 1);
    }

    private static void tellsWhoMadeThem() {
        Probe probe = new Probe();
        ShadowCourt court = probe.court;
        court.felon(0, 3, 3, 5);
        court.felon(1, 3, 4, 5);
        court.felon(9, 7, 3, 0);
        Due.is("all near", probe.prints(0, 34, 35), 1 + 2 + 512);
        Due.is("two near", probe.prints(0, 33, 35), 3);
        Due.is("three steps of all", probe.prints(0, 35, 38), 1 + 2 + 512);
        Due.is("four of felon 1", probe.prints(0, 36, 36), 1 + 512);
        Due.is("far from all", probe.prints(0, 99, 98), 0);
        Due.is("three steps, then four", probe.prints(0, 34, 74), 0);
        Due.is("a long row", probe.prints(0, 33, 36, 39, 69, 99, 96, 93, 90, 60, 30, 0, 3, 6, 9, 9, 9, 9, 9, 9, 9), 3);
        Due.is("whoever owes nothing, too", probe.prints(0, 67, 97), 512);
    }

    private static void tellsWhereItFails() {
        Probe probe = new Probe();
        ShadowCourt court = probe.court;
        court.felon(0, 3, 3, 5);
        court.felon(1, 9, 9, 5);
        Due.is("it fails for none of them", probe.prints(1, 33, 36), -2);
        Due.is("at once for all", probe.prints(1, 0, 1), 0);
        Due.is("the second", probe.prints(1, 33, 99), 1);
        Due.is("the last", probe.prints(1, 33, 36, 39, 38, 98), 4);
        Due.is("the best one counts", probe.prints(1, 99, 96, 33), 2);
    }

    private static void mindsWallsAndRiver() {
        Probe probe = new Probe();
        ShadowCourt court = probe.court;
        probe.marketWith(0, ".#8.", 1, ".r8.", 2, ".s8.");
        court.felon(0, 0, 0, 5);
        Due.is("around both it is too far", probe.prints(0, 2, 2), 0);
        Due.is("up to the stairs", probe.prints(0, 21, 12), 1);
        Due.is("not into the river", probe.prints(1, 10, 11), 1);
        Due.is("not into the wall", probe.prints(1, 10, 1), 1);
    }
}
