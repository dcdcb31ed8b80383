/** Promise 3: market. */
public final class MarketTest {
    private static final String PLAIN_NINE = "0./0./0./0./0./0./0./0./0./";

    public static void main(String[] args) {
        readsSpots();
        tellsFaults();
        refuses();
        sendsAwayWhoCannotStand();
        Due.end("MarketTest");
    }

    private static void readsSpots() {
        Probe probe = new Probe();
        Due.is("all plain", probe.market(PLAIN_NINE + "0."), 0);
        Due.is("signs and digits", probe.market("#sr7./" + PLAIN_NINE.substring(3) + "2#3s4rr"), 13);
        int[] row0 = {1, 2, 3, 0, 0, 0, 0, 0, 0, 0};
        int[] row9 = {1, 1, 2, 2, 2, 3, 3, 3, 3, 3};
        for (int x = 0; x < 10; x++) {
            Due.is("spot " + x, probe.court.count(100 + x), row0[x]);
            Due.is("spot " + (90 + x), probe.court.count(190 + x), row9[x]);
        }
        Due.is("all in signs", probe.market("..........".repeat(9).replaceAll("(.{10})", "$1/") + "##########"), 10);
        Due.is("in place of the one before", probe.court.count(100), 0);
        Due.is("all walls", probe.market("0#/0#/0#/0#/0#/0#/0#/0#/0#/0#"), 100);
        StringBuilder longest = new StringBuilder();
        for (int y = 0; y < 10; y++) {
            longest.append(y == 0 ? "" : "/").append("s.s.s.s.s.");
        }
        Due.is("109 bytes", probe.market(longest.toString()), 50);
    }

    private static void tellsFaults() {
        Probe probe = new Probe();
        probe.market("0#/" + PLAIN_NINE.substring(3) + "0.");
        fault(probe, "x", -1000);
        fault(probe, "1.", -1000);
        fault(probe, "/", -1000);
        fault(probe, "3", -1001);
        fault(probe, "33.", -1001);
        fault(probe, "3/", -1001);
        fault(probe, "3.", -1002);
        fault(probe, "9./", -1002);
        fault(probe, "0.", -1002);
        fault(probe, "0.x", -1002);
        fault(probe, "0.1", -1002);
        fault(probe, "0.s", -6002);
        fault(probe, "0.3", -6002);
        fault(probe, "0.3x", -6002);
        fault(probe, "9.2.", -6002);
        fault(probe, "9.0", -6002);
        fault(probe, "9..#", -6003);
        fault(probe, ".0.", -6001);
        fault(probe, "0./", -1003);
        fault(probe, PLAIN_NINE, -1027);
        fault(probe, PLAIN_NINE + "0./", -1029);
        fault(probe, PLAIN_NINE + "0..", -6029);
        fault(probe, PLAIN_NINE + "0.x", -1029);
        fault(probe, PLAIN_NINE + "0. ", -1029);
        Due.is("the one before stays", probe.court.count(100), 1);
        Due.is("the tape is empty behind a fault", probe.court.count(6), 0);
    }

    private static void fault(Probe probe, String text, int want) {
        Due.is("market of " + text, probe.market(text), want);
    }

    private static void refuses() {
        Probe probe = new Probe();
        probe.feed(PLAIN_NINE + "0.");
        Due.is("market(0)", probe.court.market(0), -1);
        Due.is("market(-1)", probe.court.market(-1), -1);
        Due.is("more than are there", probe.court.market(41), -1);
        Due.is("the tape stays", probe.court.count(6), 40);
        Due.is("the tape still holds it", probe.court.market(29), 0);
        Due.is("40 bytes, all there are", probe.market("........../" + "0./".repeat(8) + "6.3.s"), 1);
        for (int i = 0; i < 8; i++) {
            probe.court.feed(0, 0, 0, 0, 0);
        }
        Due.is("market(141)", probe.court.market(141), -1);
        Due.is("market(140)", probe.court.market(140), -1000);
        Due.is("the whole tape is gone", probe.court.count(6), 0);
    }

    private static void sendsAwayWhoCannotStand() {
        Probe probe = new Probe();
        ShadowCourt court = probe.court;
        for (int i = 0; i < 4; i++) {
            court.lamp(i, i, 5);
            court.felon(i, i, 6, 9);
        }
        court.judge(0, 0, 7);
        court.judge(1, 1, 7);
        probe.walk(0, "9n");
        court.keep();
        Due.is("a fault", probe.market("x"), -1000);
        Due.is("a fault sends nobody away", court.count(2), 15);
        Due.yes("behind a fault things are still kept", court.undo());
        Due.is("walls, stairs, river", probe.marketWith(5, "#sr7.", 6, "rs#7.", 7, "#9."), 7);
        Due.is("judges", court.count(1), 2);
        Due.is("felons", court.count(2), 10);
        Due.is("lamps", court.count(3), 10);
        Due.is("what they owe", court.count(4), 18);
        Due.is("a walk stays", court.count(20), 9);
        Due.no("nothing is kept any more", court.undo());
        Due.is("who is told no more owes nothing", probe.check(0, 9, 0, 9), -1);
    }
}
