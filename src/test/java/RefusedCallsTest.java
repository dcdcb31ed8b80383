/** "A call that is refused (NONE, false) changes nothing but the tape, where it is told.": each call, one test. */
public final class RefusedCallsTest {
    /** Five numbers that fill a tape of twenty bytes, and are what FELONS 0 to 4 owe. */
    private static final int[] FED = {7, 0, 999, 3, 1};

    /** A call that is to be refused: what it answers. */
    private interface Call {
        int on(ShadowCourt court);
    }

    public static void main(String[] args) {
        market();
        law();
        judge();
        walk();
        felon();
        lamp();
        minutes();
        tried();
        felonIs();
        shade();
        atOnce();
        fewest();
        home();
        first();
        dark();
        hung();
        prints();
        cloudy();
        together();
        servedBy();
        seed();
        check();
        count();
        feed();
        undo();
        Due.end("RefusedCallsTest");
    }

    private static ShadowCourt busyCourt() {
        Probe probe = new Probe();
        probe.marketWith(0, "#sr7.", 6, "4.2#2r2s");
        probe.law("a2+j(0=0);l4(0=0);v2(0=0);c3(0=0);ow(0=0);n(t%7=5)");
        probe.court.judge(0, 2, 2);
        probe.walk(0, "3n3e");
        probe.walk(1, "9w");
        for (int f = 0; f < 5; f++) {
            probe.court.felon(f, 2 + f, 3, FED[f]);
        }
        probe.court.felon(9, 8, 8, 20);
        probe.court.lamp(2, 1, 2);
        probe.court.keep();
        probe.court.feed(FED[0], FED[1], FED[2], FED[3], FED[4]);
        return probe.court;
    }

    private static void refused(String what, int answer, Call call) {
        ShadowCourt court = busyCourt();
        Picture before = new Picture(court);
        Due.is(what, call.on(court), answer);
        before.isStill("behind " + what, court);
        Due.is("the tape behind " + what, court.check(5), -1);
        Due.yes("things are kept behind " + what, court.undo());
    }

    private static int bit(boolean answer) {
        return answer ? 1 : 0;
    }

    private static void market() {
        refused("market(0)", -1, court -> court.market(0));
        refused("market(21)", -1, court -> court.market(21));
        refused("market(141)", -1, court -> court.market(141));
    }

    private static void law() {
        refused("law(0)", -1, court -> court.law(0));
        refused("law(21)", -1, court -> court.law(21));
        refused("law(241)", -1, court -> court.law(241));
    }

    private static void judge() {
        refused("no such judge", 0, court -> bit(court.judge(2, 5, 5)));
        refused("a judge at no spot", 0, court -> bit(court.judge(0, 10, 5)));
        refused("a judge on a wall", 0, court -> bit(court.judge(0, 0, 0)));
        refused("a judge in the river", 0, court -> bit(court.judge(0, 2, 0)));
        refused("a judge on the other one", 0, court -> bit(court.judge(1, 2, 2)));
    }

    private static void walk() {
        refused("walk of no judge", -1, court -> court.walk(2, 1));
        refused("walk(0, 0)", -1, court -> court.walk(0, 0));
        refused("walk(0, 21)", -1, court -> court.walk(0, 21));
        refused("walk(0, 81)", -1, court -> court.walk(0, 81));
    }

    private static void felon() {
        refused("no such felon", 0, court -> bit(court.felon(10, 5, 5, 5)));
        refused("a felon at no spot", 0, court -> bit(court.felon(0, 5, -1, 5)));
        refused("a felon on a wall", 0, court -> bit(court.felon(0, 0, 0, 5)));
        refused("a felon in the river", 0, court -> bit(court.felon(0, 2, 0, 5)));
        refused("a felon that owes 1000", 0, court -> bit(court.felon(0, 5, 5, 1000)));
    }

    private static void lamp() {
        refused("no such lamp", 0, court -> bit(court.lamp(4, 5, 5)));
        refused("no such lamp no more", 0, court -> bit(court.lamp(-1, -1, 5)));
        refused("a lamp at no spot", 0, court -> bit(court.lamp(2, -2, 5)));
        refused("a lamp on a wall", 0, court -> bit(court.lamp(2, 0, 0)));
        refused("a lamp in the river", 0, court -> bit(court.lamp(2, 2, 0)));
    }

    private static void minutes() {
        refused("minutes(0)", -1, court -> court.minutes(0));
        refused("minutes(121)", -1, court -> court.minutes(121));
    }

    private static void tried() {
        refused("tried(0, 0)", -1, court -> court.tried(0, 0));
        refused("tried(121, 0)", -1, court -> court.tried(121, 0));
        refused("tried(1, 6)", -1, court -> court.tried(1, 6));
        refused("tried(1, 15)", -1, court -> court.tried(1, 15));
        refused("tried(1, 31)", -1, court -> court.tried(1, 31));
    }

    private static void felonIs() {
        refused("felonIs(5, 0)", -1, court -> court.felonIs(5, 0));
        refused("felonIs(0, 6)", -1, court -> court.felonIs(0, 6));
    }

    private static void shade() {
        refused("shade(10, 0)", -1, court -> court.shade(10, 0));
        refused("shade(0, -1)", -1, court -> court.shade(0, -1));
    }

    private static void atOnce() {
        refused("atOnce(3)", -1, court -> court.atOnce(3));
    }

    private static void fewest() {
        refused("fewest(5, 1, 1)", -1, court -> court.fewest(5, 1, 1));
        refused("fewest(0, 31, 1)", -1, court -> court.fewest(0, 31, 1));
        refused("fewest(0, 3, 4)", -1, court -> court.fewest(0, 3, 4));
    }

    private static void home() {
        refused("home(1, 1, 10)", -1, court -> court.home(1, 1, 10));
        refused("home(0, 6, 10)", -1, court -> court.home(0, 6, 10));
        refused("home(0, 2, 2)", -1, court -> court.home(0, 2, 2));
    }

    private static void first() {
        refused("first(0, 0)", -1, court -> court.first(0, 0));
        refused("first(61, 0)", -1, court -> court.first(61, 0));
        refused("first(1, 2)", -1, court -> court.first(1, 2));
    }

    private static void dark() {
        refused("dark(0, 0)", -1, court -> court.dark(0, 0));
        refused("dark(61, 0)", -1, court -> court.dark(61, 0));
        refused("dark(1, 3)", -1, court -> court.dark(1, 3));
    }

    private static void hung() {
        refused("hung(2)", -1, court -> court.hung(2));
    }

    private static void prints() {
        refused("prints(1, 0)", -1, court -> court.prints(1, 0));
        refused("prints(21, 0)", -1, court -> court.prints(21, 0));
        refused("prints(2, 2)", -1, court -> court.prints(2, 2));
    }

    private static void cloudy() {
        refused("cloudy(0, 0, 0)", -1, court -> court.cloudy(0, 0, 0));
        refused("cloudy(11, 0, 0)", -1, court -> court.cloudy(11, 0, 0));
        refused("cloudy(1, 91, 0)", -1, court -> court.cloudy(1, 91, 0));
        refused("cloudy(1, 0, 3)", -1, court -> court.cloudy(1, 0, 3));
    }

    private static void together() {
        refused("together(0, 0)", -1, court -> court.together(0, 0));
        refused("together(9, 0)", -1, court -> court.together(9, 0));
        refused("together(1, 3)", -1, court -> court.together(1, 3));
        // byte 10 is the third of 999's, a 3: 2 * 5 + 1 + 2 * 3 bytes would be there
        refused("together(5, -1)", -1, court -> court.together(5, -1));
    }

    private static void servedBy() {
        refused("servedBy(0, 0)", -1, court -> court.servedBy(0, 0));
        refused("servedBy(61, 0)", -1, court -> court.servedBy(61, 0));
        refused("servedBy(1, 1)", -1, court -> court.servedBy(1, 1));
        refused("servedBy(1, 2)", -1, court -> court.servedBy(1, 2));
        refused("servedBy(1, 3)", -1, court -> court.servedBy(1, 3));
    }

    private static void seed() {
        refused("seed(-1)", 0, court -> bit(court.seed(-1)));
        refused("seed(65536)", 0, court -> bit(court.seed(65536)));
    }

    private static void check() {
        refused("check(-1)", -2, court -> court.check(-1));
        refused("check(6)", -2, court -> court.check(6));
        refused("check(11)", -2, court -> court.check(11));
    }

    private static void count() {
        refused("count(9)", -1, court -> court.count(9));
        refused("count(200)", -1, court -> court.count(200));
    }

    // "NONE if that would be more than 260": the tape of 260 bytes stays
    private static void feed() {
        ShadowCourt court = busyCourt();
        for (int i = 0; i < 12; i++) {
            court.feed(5, 5, 5, 5, 5);
        }
        Picture before = new Picture(court);
        Due.is("feed", court.feed(9, 9, 9, 9, 9), -1);
        before.isStill("behind feed", court);
        Due.is("the tape behind feed", court.check(5), -1);
    }

    // "false: none was KEPT"
    private static void undo() {
        ShadowCourt court = new ShadowCourt();
        court.judge(0, 5, 5);
        court.felon(0, 5, 6, 9);
        court.feed(9, 0, 0, 0, 0);
        Picture before = new Picture(court);
        Due.no("undo", court.undo());
        before.isStill("behind undo", court);
        Due.is("the tape behind undo", court.check(5), -1);
    }
}
