/** Promise 21: together. */
public final class TogetherTest {
    public static void main(String[] args) {
        refuses();
        runsTogether();
        Due.end("TogetherTest");
    }

    private static void refuses() {
        Probe probe = new Probe();
        ShadowCourt court = probe.court;
        Due.is("nothing is fed", court.together(1, 0), -1);
        probe.feed(0, 10, 0, 20, 1, 0, 1);
        Due.is("n 0", court.together(0, 0), -1);
        Due.is("n 9", court.together(9, 0), -1);
        Due.is("what -1", court.together(2, -1), -1);
        Due.is("what 3", court.together(2, 3), -1);
        Due.is("the tape stays", court.count(6), 20);
        Due.is("it is still there", court.together(2, 0), 20);
        Due.is("the tape is empty then", court.count(6), 0);
        Due.is("9 of bytes that are there", probe.together(9, 0, new int[40]), -1);
        Due.is("8 of 17 bytes", probe.together(8, 0, new int[17]), 0);
        Due.is("9 twos of 20 bytes", probe.together(1, 0, 0, 10, 9, 0), -1);
        Due.is("the tape stays", court.count(6), 20);
        Due.is("13 twos of 20 bytes", probe.together(1, 0, 0, 10, 13), -1);
        int[] many = new int[40];
        many[2] = 13;
        Due.is("13 twos that are there", probe.together(1, 0, many), -2);
        Due.is("the tape is empty then", court.count(6), 0);
        many[2] = 12;
        Due.is("12 twos", probe.together(1, 1, many), 1);
        Due.is("a place beyond", probe.together(1, 0, 0, 10, 1, 0, 1), -2);
        Due.is("a place beyond", probe.together(2, 0, 0, 10, 0, 10, 1, 2, 1), -2);
        Due.is("a place far beyond", probe.together(2, 0, 0, 10, 0, 10, 1, 255, 1), -2);
    }

    private static void runsTogether() {
        Probe probe = new Probe();
        asked(probe, 3, 25, 2, 20, 0, 10, 0, 20, 0, 5, 1, 0, 1);
        asked(probe, 3, 35, 3, 20, 0, 10, 0, 20, 0, 5, 0);
        asked(probe, 1, 256, 1, 256, 1, 0, 0);
        asked(probe, 1, 65535, 1, 65535, 255, 255, 1, 0, 0);
        asked(probe, 2, 131070, 2, 65535, 255, 255, 255, 255, 2, 0, 0, 1, 1);
        asked(probe, 2, 0, 1, 0, 0, 0, 0, 0, 1, 1, 0);
        // 0 and 3, 1 and 2, then 3 and 1: one group
        asked(probe, 4, 9, 1, 9, 0, 9, 0, 8, 0, 7, 0, 6, 3, 0, 3, 2, 1, 3, 1);
        // a ring of 0 2 4, and 1 with 3
        asked(probe, 5, 5 + 4, 2, 5, 0, 1, 0, 2, 0, 3, 0, 4, 0, 5, 4, 0, 2, 2, 4, 4, 0, 3, 1);
        asked(probe, 8, 36 - 1, 7, 8, 0, 1, 0, 2, 0, 3, 0, 4, 0, 5, 0, 6, 0, 7, 0, 8, 1, 7, 0);
    }

    private static void asked(Probe probe, int n, int all, int groups, int longest, int... bytes) {
        String what = "of " + java.util.Arrays.toString(bytes);
        Due.is(what + ", how long", probe.together(n, 0, bytes), all);
        Due.is(what + ", groups", probe.together(n, 1, bytes), groups);
        Due.is(what + ", longest", probe.together(n, 2, bytes), longest);
    }
}
