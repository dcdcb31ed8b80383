/** Promise 9: minutes, and how A MINUTE goes by. */
public final class MinutesTest {
    public static void main(String[] args) {
        refuses();
        goesToTheNearest();
        goesByRank();
        servesByLayers();
        staysAway();
        drowns();
        crossesTheRiver();
        goesByTheMarketOfNow();
        isCloudyByDraws();
        servesAtNight();
        endsAtLast();
        Due.end("MinutesTest");
    }

    private static void refuses() {
        Probe probe = Probe.eastward();
        Due.is("minutes(0)", probe.court.minutes(0), -1);
        Due.is("minutes(-3)", probe.court.minutes(-3), -1);
        Due.is("minutes(121)", probe.court.minutes(121), -1);
        Due.is("none went by", probe.court.count(0), 0);
        Due.is("nothing was drawn", probe.court.count(7), 1);
        Due.is("minutes(120)", probe.court.minutes(120), 0);
        Due.is("120 went by", probe.court.count(0), 120);
    }

    private static void goesToTheNearest() {
        Probe probe = Probe.eastward();
        ShadowCourt court = probe.court;
        court.judge(0, 2, 2);
        // shadows at 23, 24, 25
        court.felon(0, 4, 3, 9);
        court.minutes(1);
        Due.is("one step", court.felonIs(0, 0), 24);
        court.felon(0, 2, 2, 9);
        court.minutes(1);
        Due.is("from the judge's spot", court.felonIs(0, 0), 23);
        court.felon(0, 6, 3, 9);
        court.minutes(1);
        Due.is("two steps", court.felonIs(0, 0), 25);
        court.felon(0, 7, 3, 9);
        court.minutes(1);
        Due.is("three are too many", court.felonIs(0, 0), 37);
        probe.marketWith(3, "3.#6.");
        court.felon(0, 3, 4, 9);
        court.minutes(1);
        Due.is("not through walls", court.felonIs(0, 0), 43);
        probe.marketWith();
        court.judge(1, 2, 4);
        // shadows at 43, 44, 45, too
        court.felon(0, 4, 3, 9);
        court.minutes(1);
        Due.is("of like ones the lowest", court.felonIs(0, 0), 24);
        court.felon(0, 4, 4, 9);
        court.minutes(1);
        Due.is("no step is the fewest", court.felonIs(0, 0), 44);
    }

    private static void goesByRank() {
        Probe probe = new Probe();
        ShadowCourt court = probe.court;
        court.judge(0, 2, 2);
        court.felon(0, 3, 3, 5);
        court.felon(1, 3, 3, 9);
        court.felon(2, 3, 3, 9);
        probe.law("a2(1=1);l2(1=1);v3(1=1)");
        Due.is("of like ones the lowest go first", court.tried(1, 10), 23);
        Due.is("then the next one", court.tried(1, 11), 24);
        Due.is("none is left", court.tried(1, 12), 33);
        probe.law("a2(1=1);l2(1=1);v3(1=1);ow(1=1)");
        Due.is("who owes most goes first", court.tried(1, 11), 23);
        Due.is("then who owes as much", court.tried(1, 12), 24);
        Due.is("then who owes less", court.tried(1, 10), 33);
        probe.law("a2(1=1);l2(1=1);v3(1=1);of(1=1)");
        court.minutes(1);
        Due.is("the last one", court.felonIs(2, 0), 23);
        Due.is("the one ahead", court.felonIs(1, 0), 24);
        Due.is("the first one", court.felonIs(0, 2), 1);
        // a spot is free of those who stand there without being ahead
        probe.law("a2(1=1);l1(1=1);v3(1=1)");
        Due.is("felon 0 takes it from felon 2", court.tried(1, 10), 23);
        Due.is("felon 2 stays there, away", court.tried(1, 12), 23);
        court.felon(3, 3, 2, 0);
        Due.is("who owes nothing is in nobody's way", court.tried(1, 10), 23);
    }

    private static void servesByLayers() {
        Probe probe = Probe.eastward();
        ShadowCourt court = probe.court;
        court.judge(0, 1, 2);
        court.judge(1, 2, 2);
        // 22, 23, 24 and 23, 24, 25
        court.felon(0, 3, 2, 5);
        Due.is("two shadows", court.minutes(1), 2);
        Due.is("owes less", court.felonIs(0, 1), 3);
        Due.is("two shadows", court.minutes(1), 2);
        Due.is("not below 0", court.minutes(1), 1);
        Due.is("owes nothing", court.felonIs(0, 1), 0);
        Due.is("nothing is left", court.minutes(5), 0);
        Due.is("nor is it away", court.felonIs(0, 2), 0);
        court.felon(0, 2, 2, 5);
        Due.is("one shadow", court.minutes(1), 1);
    }

    private static void staysAway() {
        Probe probe = new Probe();
        ShadowCourt court = probe.court;
        court.felon(0, 5, 5, 5);
        court.felon(1, 5, 5, 0);
        for (int i = 0; i < 9; i++) {
            Due.is("nobody serves", court.minutes(110), 0);
        }
        Due.is("away 990", court.felonIs(0, 2), 990);
        court.minutes(9);
        Due.is("away 999", court.felonIs(0, 2), 999);
        court.minutes(1);
        Due.is("away 999 at most", court.felonIs(0, 2), 999);
        Due.is("who owes nothing is not away", court.felonIs(1, 2), 0);
        Due.is("it stays", court.felonIs(0, 0), 55);
    }

    private static void drowns() {
        Probe probe = Probe.eastward();
        ShadowCourt court = probe.court;
        probe.marketWith(2, "3.r6.");
        court.judge(0, 2, 2);
        court.felon(0, 3, 3, 5);
        Due.is("it serves the minute", court.minutes(1), 1);
        Due.is("in the river", court.felonIs(0, 0), 23);
        Due.is("it has drowned", court.felonIs(0, 3), 1);
        Due.is("it serves no more", court.minutes(10), 0);
        Due.is("nor is it away", court.felonIs(0, 2), 0);
        Due.is("it still owes", court.count(4), 4);
        court.felon(1, 3, 3, 5);
        Due.is("another one goes there", court.minutes(1), 1);
        Due.is("and drowns", court.tried(1, 2), 2);
    }

    private static void crossesTheRiver() {
        Probe probe = Probe.eastward();
        ShadowCourt court = probe.court;
        probe.marketWith(3, "0r");
        court.judge(0, 2, 2);
        court.felon(0, 4, 4, 5);
        court.minutes(1);
        Due.is("it goes through the river", court.felonIs(0, 0), 24);
        Due.is("without drowning", court.felonIs(0, 3), 0);
    }

    private static void goesByTheMarketOfNow() {
        Probe probe = new Probe();
        ShadowCourt court = probe.court;
        probe.law("a0(1=1);l1(1=1);v3(1=1)");
        court.judge(0, 1, 0);
        court.felon(0, 0, 0, 9);
        Due.is("two steps", court.tried(1, 4), 2);
        probe.marketWith(0, "..#7.", 1, "#9.");
        Due.is("a wall in one way", court.tried(1, 4), 2);
        probe.marketWith(0, ".#8.", 1, "#9.");
        court.judge(0, 0, 2);
        Due.is("walls all around", court.tried(1, 1), 1);
        probe.marketWith(0, "0.");
        Due.is("all plain again", court.tried(1, 4), 3);
    }

    private static void isCloudyByDraws() {
        Probe probe = new Probe();
        ShadowCourt court = probe.court;
        probe.law("a2(1=1);l3(1=1);v3(1=1);c5(1=1)");
        court.judge(0, 2, 2);
        court.felon(0, 3, 2, 99);
        court.seed(7);
        int x = 7;
        for (int minute = 0; minute < 40; minute++) {
            x = (25173 * x + 13849) % 65536;
            boolean cloudy = x % 10 < 5;
            Due.is("cloudy in " + minute, court.tried(1, 3), cloudy ? 1 : 0);
            Due.is("served in " + minute, court.minutes(1), cloudy ? 0 : 1);
            Due.is("X behind " + minute, court.count(7), x);
        }
        isCloudyBySeeds();
    }

    private static void isCloudyBySeeds() {
        Probe probe = new Probe();
        ShadowCourt court = probe.court;
        probe.law("a2(1=1);l3(1=1);v3(1=1);c1(1=1)");
        court.judge(0, 2, 2);
        court.felon(0, 3, 2, 99);
        for (int seed = 0; seed < 200; seed++) {
            court.seed(seed);
            int draw = (25173 * seed + 13849) % 65536 % 10;
            Due.is("seed " + seed, court.tried(1, 0), draw < 1 ? 0 : 1);
        }
    }

    private static void servesAtNight() {
        Probe probe = new Probe();
        ShadowCourt court = probe.court;
        probe.law("a2(1=1);l3(1=1);v3(1=1);n(t>2)");
        court.judge(0, 1, 2);
        court.judge(1, 2, 2);
        court.felon(0, 3, 2, 99);
        int[] want = {2, 2, 2, 1, 0, 0, 1, 0, 0, 1};
        for (int minute = 0; minute < want.length; minute++) {
            Due.is("served in minute " + minute, court.minutes(1), want[minute]);
        }
        Due.is("it was there all the time", court.felonIs(0, 2), 0);
        // clouds take the shadows of judges at night, too, those of lamps they leave
        probe.law("a2(1=1);l3(1=1);v3(1=1);n(1=1);c10(1=1)");
        court.felon(0, 3, 2, 99);
        Due.is("no shadow", court.tried(1, 1), 1);
        court.lamp(0, 0, 2);
        Due.is("of a lamp", court.tried(1, 1), 0);
    }

    private static void endsAtLast() {
        Probe probe = Probe.eastward();
        ShadowCourt court = probe.court;
        court.judge(0, 2, 2);
        court.felon(0, 3, 2, 999);
        probe.goTo(9990);
        court.felon(0, 3, 2, 999);
        int x = court.count(7);
        Due.is("as many as can", court.tried(20, 0), 9);
        Due.is("as many as can", court.minutes(20), 9);
        Due.is("the last minute", court.count(0), 9999);
        Due.no("draws were made", court.count(7) == x);
        x = court.count(7);
        Due.is("none goes by", court.minutes(1), 0);
        Due.is("the last minute", court.count(0), 9999);
        Due.is("nothing is drawn", court.count(7), x);
        Due.is("none is tried", court.tried(5, 0), 0);
        Due.is("none for one alone", court.servedBy(5, 0), 0);
        Due.is("none for first", court.first(5, 1), 0);
        Due.is("none for home", court.home(0, 3, 10), 0);
    }
}
