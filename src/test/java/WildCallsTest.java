import java.util.Random;

/** All promises: whatever is asked in whatever state, each call ends and none throws. */
public final class WildCallsTest {
    private static final String SIGNS = "alcnvothjfwbs0123456789[]()!&|<>=+-*/%;.#sr/nesw";
    private static final int[] ENDS = {Integer.MIN_VALUE, Integer.MIN_VALUE + 1, -1000, -2, -1, 0, 1, 2, 3,
        9, 10, 11, 30, 31, 60, 61, 99, 100, 120, 121, 199, 200, 255, 256, 260, 261, 999, 1000, 65535, 65536,
        Integer.MAX_VALUE - 1, Integer.MAX_VALUE};

    public static void main(String[] args) {
        Random random = new Random(4711);
        int calls = 0;
        for (int run = 0; run < 300; run++) {
            Probe probe = run % 3 == 0 ? new Probe() : Probe.eastward();
            if (run % 2 == 0) {
                probe.court.judge(0, 2, 2);
                probe.court.judge(1, 5, 5);
                probe.court.felon(0, 3, 3, 9);
                probe.walk(0, "9n");
            }
            for (int i = 0; i < 400; i++) {
                call(probe.court, random, random.nextInt(29));
                calls++;
            }
            Due.yes("the minute stays in bounds", probe.court.count(0) >= 0 && probe.court.count(0) <= 9999);
            Due.yes("the tape stays in bounds", probe.court.count(6) >= 0 && probe.court.count(6) <= 260);
        }
        Due.is("calls", calls, 120000);
        Due.end("WildCallsTest");
    }

    private static int some(Random random) {
        return random.nextBoolean() ? random.nextInt(12) : ENDS[random.nextInt(ENDS.length)];
    }

    private static int signs(Random random) {
        int four = 0;
        for (int i = 0; i < 4; i++) {
            four = four << 8 | SIGNS.charAt(random.nextInt(SIGNS.length()));
        }
        return four;
    }

    private static void call(ShadowCourt court, Random random, int which) {
        int a = some(random);
        int b = some(random);
        int c = some(random);
        int d = some(random);
        switch (which) {
            case 0, 1, 2 -> court.feed(signs(random), signs(random), signs(random), signs(random), signs(random));
            case 3 -> court.feed(a, b, c, d, some(random));
            case 4 -> court.market(a);
            case 5 -> court.law(a);
            case 6 -> court.judge(a, b, c);
            case 7 -> court.walk(a, b);
            case 8 -> court.felon(a, b, c, d);
            case 9 -> court.lamp(a, b, c);
            case 10 -> court.minutes(a);
            case 11 -> court.tried(a, b);
            case 12 -> court.felonIs(a, b);
            case 13 -> court.shade(a, b);
            case 14 -> court.atOnce(a);
            case 15 -> court.fewest(a, b, c);
            case 16 -> court.home(a, Math.min(b, 3), c);
            case 17 -> court.first(a, b);
            case 18 -> court.dark(a, b);
            case 19 -> court.hung(a);
            case 20 -> court.prints(a, b);
            case 21 -> court.cloudy(a, b, c);
            case 22 -> court.together(a, b);
            case 23 -> court.servedBy(a, b);
            case 24 -> court.seed(a);
            case 25 -> court.keep();
            case 26 -> court.undo();
            case 27 -> court.check(a);
            default -> court.count(a);
        }
    }
}
