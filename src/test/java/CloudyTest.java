/** Promise 20: cloudy. */
public final class CloudyTest {
    public static void main(String[] args) {
        refuses();
        tellsSets();
        Due.end("CloudyTest");
    }

    private static void refuses() {
        Probe probe = new Probe();
        ShadowCourt court = probe.court;
        probe.feed(3, 2, 1);
        Due.is("n 0", court.cloudy(0, 3, 0), -1);
        Due.is("n 11", court.cloudy(11, 3, 0), -1);
        Due.is("served -1", court.cloudy(3, -1, 0), -1);
        Due.is("served 91", court.cloudy(3, 91, 0), -1);
        Due.is("what -1", court.cloudy(3, 3, -1), -1);
        Due.is("what 3", court.cloudy(3, 3, 3), -1);
        Due.is("the tape stays", court.count(6), 20);
        Due.is("two sets", court.cloudy(3, 3, 0), 2);
        Due.is("the tape is empty then", court.count(6), 0);
        Due.is("not so many", court.cloudy(1, 3, 0), -1);
        Due.is("a 0", probe.cloudy(3, 0, 3, 0, 1), -3);
        Due.is("a 10", probe.cloudy(3, 2, 3, 10, 1), -3);
        Due.is("a 255", probe.cloudy(3, 1, 255), -3);
        Due.is("the tape is empty then", court.count(6), 0);
        Due.is("out of bounds behind the n bytes", probe.cloudy(9, 0, 9), 1);
    }

    private static void tellsSets() {
        Probe probe = new Probe();
        asked(probe, 3, 2, 1, 0, 3, 2, 1);
        asked(probe, 5, 1, 4, 4, 3, 2, 1);
        asked(probe, 6, 1, 0, 0, 3, 2, 1);
        asked(probe, 0, 1, 7, 7, 3, 2, 1);
        asked(probe, 7, 0, -2, -2, 3, 2, 1);
        asked(probe, 4, 3, 9, 8, 2, 2, 2, 1);
        asked(probe, 90, 1, 0, 0, 9, 9, 9, 9, 9, 9, 9, 9, 9, 9);
        asked(probe, 5, 252, 31, 0, 1, 1, 1, 1, 1, 1, 1, 1, 1, 1);
        asked(probe, 9, 10, 511, 0, 9, 9, 9, 9, 9, 9, 9, 9, 9, 9);
        asked(probe, 1, 2, 3, 1, 5, 1, 1);
    }

    private static void asked(Probe probe, int served, int sets, int lowest, int sure, int... minutes) {
        String what = "served " + served + " of " + java.util.Arrays.toString(minutes);
        Due.is(what + ", sets", probe.cloudy(served, 0, minutes), sets);
        Due.is(what + ", the first", probe.cloudy(served, 1, minutes), lowest);
        Due.is(what + ", sure", probe.cloudy(served, 2, minutes), sure);
    }
}
