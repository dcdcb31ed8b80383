/** The sentences that name an edge: promises 1, 23, 24, 25 (a new object, seed, keep, undo), one test each. */
public final class KeepEdgesTest {
    public static void main(String[] args) {
        aNewObject();
        objectsAreApart();
        noSuchSeed();
        aSeedIsXToo();
        keepIsTheMinute();
        noneWasKept();
        undoneMoreThanOnce();
        asTheyWereKeptLast();
        judgesAreKept();
        walksAreKept();
        howFarIsKept();
        felonsAreKept();
        minuteIsKept();
        xIsKept();
        whoWasNotToldIsToldNoMore();
        whoHasBeenToldNoMoreIsThere();
        lawLampsAndTapeAreNot();
        aMarketEndsIt();
        aFaultDoesNot();
        itGoesOnAsItWouldHave();
        Due.end("KeepEdgesTest");
    }

    // promise 1: "A plain market, no JUDGES, FELONS, LAW; THE SEED 1."
    private static void aNewObject() {
        ShadowCourt court = new ShadowCourt();
        int[] counts = {0, 0, 0, 0, 0, 0, 0, 1, 0};
        for (int what = 0; what < counts.length; what++) {
            Due.is("count(" + what + ")", court.count(what), counts[what]);
        }
        Due.is("nobody owes", court.minutes(120), 0);
        Due.is("the least constant", ShadowCourt.NONE, -1);
    }

    // "All memory is the court's own."
    private static void objectsAreApart() {
        Probe one = new Probe();
        Probe other = new Probe();
        Picture before = new Picture(other.court);
        one.marketWith(0, "#sr7.");
        one.law("a2(0=0);l9(0=0);v3(0=0);n(0=0);c5(0=0)");
        one.court.judge(0, 5, 5);
        one.walk(1, "9n");
        one.court.felon(9, 6, 6, 9);
        one.court.lamp(0, 4, 5);
        one.court.seed(77);
        one.court.minutes(9);
        one.court.feed(1, 2, 3, 4, 5);
        one.court.keep();
        before.isStill("another court", other.court);
        Due.no("nothing is kept there", other.court.undo());
    }

    // "THE SEED (0 to 65535 ..)", "false: no such number"
    private static void noSuchSeed() {
        ShadowCourt court = new ShadowCourt();
        int[] wrong = {-1, 65536, Integer.MIN_VALUE, Integer.MAX_VALUE};
        for (int seed : wrong) {
            Due.no("seed " + seed, court.seed(seed));
            Due.is("X", court.count(7), 1);
        }
        Due.yes("seed 0", court.seed(0));
        Due.is("X", court.count(7), 0);
        Due.yes("seed 65535", court.seed(65535));
        Due.is("X", court.count(7), 65535);
    }

    // "(.. X, too)": at any MINUTE
    private static void aSeedIsXToo() {
        ShadowCourt court = new ShadowCourt();
        court.minutes(7);
        court.seed(1);
        Due.is("X", court.count(7), 1);
        court.minutes(1);
        Due.is("X behind a minute", court.count(7), 39022);
        Due.is("the minute", court.count(0), 8);
    }

    // promise 24: "KEPT: THE MINUTE."
    private static void keepIsTheMinute() {
        Probe probe = new Probe();
        Due.is("at first", probe.court.keep(), 0);
        probe.court.minutes(120);
        Due.is("at 120", probe.court.keep(), 120);
        probe.goTo(9999);
        Due.is("at last", probe.court.keep(), 9999);
    }

    // promise 25: "false: none was KEPT"
    private static void noneWasKept() {
        ShadowCourt court = new ShadowCourt();
        court.judge(0, 5, 5);
        court.minutes(3);
        Due.no("undo", court.undo());
        Due.is("the minute", court.count(0), 3);
        Due.is("the judge", court.count(10), 55);
    }

    // "UNDONE: as they were KEPT last": once more, too
    private static void undoneMoreThanOnce() {
        ShadowCourt court = new ShadowCourt();
        court.keep();
        for (int i = 0; i < 3; i++) {
            court.minutes(5);
            Due.is("gone on", court.count(0), 5);
            Due.yes("undo", court.undo());
            Due.is("undone", court.count(0), 0);
        }
        Due.yes("with nothing gone on", court.undo());
    }

    // "KEPT last"
    private static void asTheyWereKeptLast() {
        ShadowCourt court = new ShadowCourt();
        court.keep();
        court.minutes(5);
        court.keep();
        court.minutes(5);
        court.undo();
        Due.is("the minute", court.count(0), 5);
    }

    // "KEPT: JUDGES .."
    private static void judgesAreKept() {
        for (int j = 0; j < 2; j++) {
            ShadowCourt court = new ShadowCourt();
            court.judge(j, 5, 5);
            court.keep();
            court.judge(j, 1, 1);
            court.undo();
            Due.is("judge " + j, court.count(10 + j), 55);
        }
    }

    // ".. their WALKS .."
    private static void walksAreKept() {
        for (int j = 0; j < 2; j++) {
            Probe probe = new Probe();
            probe.court.judge(j, 5, 5);
            probe.walk(j, "4n");
            probe.court.keep();
            probe.walk(j, "2e");
            probe.court.undo();
            Due.is("steps of judge " + j, probe.court.count(20 + j), 4);
            Due.is("where they lead", probe.court.tried(9, 30 + j), 95);
        }
    }

    // ".. (and how far) .."
    private static void howFarIsKept() {
        for (int j = 0; j < 2; j++) {
            Probe probe = new Probe();
            probe.court.judge(j, 5, 5);
            probe.walk(j, "3n3w");
            probe.court.minutes(2);
            probe.court.keep();
            probe.court.minutes(3);
            probe.court.undo();
            Due.is("steps of judge " + j, probe.court.count(20 + j), 4);
            Due.is("the next one", probe.court.tried(1, 30 + j), 85);
            Due.is("the last one", probe.court.tried(4, 30 + j), 82);
        }
    }

    // ".. FELONS ..": each of them, all of it
    private static void felonsAreKept() {
        for (int f = 0; f < 10; f++) {
            Probe probe = new Probe();
            probe.marketWith(5, "6.r3.");
            probe.law("a2(t=1);l1(t=1);v3(0=0)");
            probe.court.judge(0, 5, 5);
            probe.court.felon(f, 6, 6, 9);
            probe.court.minutes(1);
            int[] alive = {66, 9, 1, 0};
            keptAndUndone(probe, f, alive);
            probe.court.minutes(1);
            int[] drowned = {56, 8, 1, 1};
            keptAndUndone(probe, f, drowned);
        }
    }

    private static void keptAndUndone(Probe probe, int f, int[] want) {
        probe.court.keep();
        probe.court.felon(f, 1, 1, 4);
        probe.court.minutes(2);
        probe.court.undo();
        for (int what = 0; what < 4; what++) {
            Due.is("felonIs(" + f + ", " + what + ")", probe.court.felonIs(f, what), want[what]);
        }
    }

    // ".. THE MINUTE .."
    private static void minuteIsKept() {
        Probe probe = new Probe();
        probe.goTo(9998);
        probe.court.keep();
        probe.court.minutes(1);
        Due.is("at last", probe.court.count(0), 9999);
        probe.court.undo();
        Due.is("undone", probe.court.count(0), 9998);
        probe.court.minutes(1);
        Due.is("at last again", probe.court.count(0), 9999);
    }

    // ".. X"
    private static void xIsKept() {
        ShadowCourt court = new ShadowCourt();
        court.seed(4711);
        court.keep();
        court.minutes(3);
        court.undo();
        Due.is("X behind minutes", court.count(7), 4711);
        court.seed(0);
        court.undo();
        Due.is("X behind a seed", court.count(7), 4711);
    }

    // "as they were": not told
    private static void whoWasNotToldIsToldNoMore() {
        Probe probe = new Probe();
        probe.court.keep();
        probe.court.judge(0, 1, 1);
        probe.court.judge(1, 2, 2);
        probe.walk(1, "5n");
        for (int f = 0; f < 10; f++) {
            probe.court.felon(f, 3, 3, 9);
        }
        probe.court.undo();
        Due.is("judges", probe.court.count(1), 0);
        Due.is("steps", probe.court.count(21), 0);
        Due.is("felons", probe.court.count(2), 0);
        Due.is("owed by all", probe.court.count(4), 0);
    }

    // "as they were": of an empty court, kept when it was full, nothing is lost
    private static void whoHasBeenToldNoMoreIsThere() {
        Probe probe = new Probe();
        probe.court.judge(0, 1, 1);
        probe.court.judge(1, 2, 2);
        probe.court.felon(9, 3, 3, 9);
        probe.court.keep();
        probe.court.judge(0, 5, 5);
        probe.court.judge(1, 1, 1);
        probe.court.judge(0, 2, 2);
        probe.court.undo();
        Due.is("judge 0", probe.court.count(10), 11);
        Due.is("judge 1", probe.court.count(11), 22);
        Due.no("and where judge 0 is", probe.court.judge(1, 1, 1));
    }

    // What is not in the list is not KEPT.
    private static void lawLampsAndTapeAreNot() {
        Probe probe = new Probe();
        probe.court.keep();
        probe.law("n(0=0);n(0=0)");
        probe.court.lamp(1, 4, 4);
        probe.court.feed(1, 2, 3, 4, 5);
        probe.court.undo();
        Due.is("clauses", probe.court.count(5), 2);
        Due.is("night", probe.court.count(8), 1);
        Due.is("lamps", probe.court.count(3), 2);
        Due.is("the tape", probe.court.count(6), 20);
    }

    // promise 3: "nothing is KEPT any more"
    private static void aMarketEndsIt() {
        Probe probe = new Probe();
        probe.court.judge(0, 5, 5);
        probe.court.keep();
        probe.court.minutes(5);
        probe.marketWith();
        Due.no("undo", probe.court.undo());
        Due.is("the minute", probe.court.count(0), 5);
        Due.is("the judge", probe.court.count(10), 55);
    }

    // The same: a market that is refused, or a fault, ends nothing.
    private static void aFaultDoesNot() {
        Probe probe = new Probe();
        probe.court.keep();
        probe.court.minutes(5);
        Due.is("a fault", probe.market("x"), -1000);
        Due.is("no such n", probe.court.market(0), -1);
        Due.yes("undo", probe.court.undo());
        Due.is("the minute", probe.court.count(0), 0);
    }

    // "as they were": what comes then is as it would have been
    private static void itGoesOnAsItWouldHave() {
        Probe probe = new Probe();
        probe.law("a2+t%3(0=0);l3(0=0);v2(0=0);c4(0=0);ow(0=0)");
        probe.court.judge(0, 2, 2);
        probe.court.judge(1, 6, 6);
        probe.walk(0, "2(3n2e)");
        for (int f = 0; f < 10; f++) {
            probe.court.felon(f, f, 4, 9 + f);
        }
        probe.court.minutes(3);
        Picture before = new Picture(probe.court);
        probe.court.keep();
        probe.court.minutes(20);
        probe.court.undo();
        before.isStill("undone", probe.court);
    }
}
