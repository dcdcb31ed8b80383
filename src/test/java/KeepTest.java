/** Promises 23 (seed), 24 (keep) and 25 (undo). */
public final class KeepTest {
    public static void main(String[] args) {
        seeds();
        keepsAndUndoes();
        keepsNoLawNoLampNoTape();
        keepsWhoWasNotThere();
        Due.end("KeepTest");
    }

    private static void seeds() {
        ShadowCourt court = new ShadowCourt();
        Due.no("-1", court.seed(-1));
        Due.no("65536", court.seed(65536));
        Due.is("X stays", court.count(7), 1);
        Due.yes("0", court.seed(0));
        Due.is("X", court.count(7), 0);
        court.minutes(1);
        Due.is("X behind a minute", court.count(7), 13849);
        Due.yes("65535", court.seed(65535));
        Due.is("X", court.count(7), 65535);
        court.minutes(1);
        Due.is("X behind a minute", court.count(7), (int) ((25173L * 65535 + 13849) % 65536));
    }

    private static void keepsAndUndoes() {
        Probe probe = Probe.eastward();
        ShadowCourt court = probe.court;
        Due.no("nothing is kept", court.undo());
        probe.marketWith(2, "4.r5.");
        court.judge(0, 2, 2);
        court.judge(1, 9, 9);
        probe.walk(0, "5n");
        probe.walk(1, "3s");
        court.felon(0, 3, 3, 9);
        court.felon(1, 4, 3, 9);
        court.felon(2, 9, 0, 9);
        court.minutes(1);
        Due.is("kept at", court.keep(), 1);
        int[] before = picture(court);
        court.minutes(7);
        probe.walk(0, "e");
        probe.walk(1, "9w");
        court.judge(0, 0, 0);
        court.felon(2, 5, 5, 1);
        court.felon(7, 5, 5, 1);
        court.seed(4711);
        Due.yes("undone", court.undo());
        same("undone", court, before);
        court.minutes(5);
        Due.yes("undone once more", court.undo());
        same("undone once more", court, before);
        int served = court.tried(6, 0);
        Due.is("it goes on as it would have", court.minutes(6), served);
        Due.is("kept anew at", court.keep(), 7);
        before = picture(court);
        court.minutes(3);
        court.undo();
        same("the last one counts", court, before);
        Due.is("a market in place of this one", probe.marketWith(2, "4.r5."), 1);
        Due.no("nothing is kept any more", court.undo());
    }

    private static int[] picture(ShadowCourt court) {
        int[] seen = new int[60];
        int at = 0;
        for (int what : new int[] {0, 1, 2, 4, 7, 10, 11, 20, 21}) {
            seen[at++] = court.count(what);
        }
        for (int f = 0; f < 10; f++) {
            for (int what = 0; what < 4; what++) {
                seen[at++] = court.felonIs(f, what);
            }
        }
        for (int n = 1; n <= 5; n++) {
            seen[at++] = court.tried(n, 30);
            seen[at++] = court.tried(n, 31);
        }
        return seen;
    }

    private static void same(String what, ShadowCourt court, int[] before) {
        int[] after = picture(court);
        for (int i = 0; i < before.length; i++) {
            Due.is(what + ", mark " + i, after[i], before[i]);
        }
    }

    private static void keepsNoLawNoLampNoTape() {
        Probe probe = new Probe();
        ShadowCourt court = probe.court;
        court.keep();
        probe.law("n(1=1);n(1=1)");
        court.lamp(0, 4, 4);
        court.feed(1, 2, 3, 4, 5);
        court.undo();
        Due.is("clauses", court.count(5), 2);
        Due.is("lamps", court.count(3), 1);
        Due.is("tape", court.count(6), 20);
    }

    private static void keepsWhoWasNotThere() {
        Probe probe = new Probe();
        ShadowCourt court = probe.court;
        probe.walk(1, "4n");
        Due.is("kept at", court.keep(), 0);
        court.judge(1, 5, 5);
        court.felon(4, 5, 5, 5);
        court.minutes(2);
        Due.yes("undone", court.undo());
        Due.is("no judge", court.count(1), 0);
        Due.is("no felon", court.count(2), 0);
        Due.is("nothing is owed", court.count(4), 0);
        Due.is("a walk of nobody", court.count(21), 4);
    }
}
