/** Promise 18: hung. */
public final class HungTest {
    public static void main(String[] args) {
        Probe probe = Probe.eastward();
        ShadowCourt court = probe.court;
        Due.is("what -1", court.hung(-1), -1);
        Due.is("what 2", court.hung(2), -1);
        hung("without judges", probe, 0, 0);
        court.judge(0, 2, 2);
        hung("aslant at the corner", probe, 0, 2);
        probe.market("#9./0./0./0./0./0./0./0./0./0.");
        hung("a wall there", probe, 2, 2);
        probe.market("s9./0./0./0./0./0./0./0./0./0.");
        hung("stairs there", probe, 2, 2);
        probe.market("r9./0./0./0./0./0./0./0./0./0.");
        hung("the river there", probe, 2, 2);
        probe.market("0./0./0./0./0./0./0./0./0./0.");
        court.felon(3, 0, 0, 0);
        hung("a felon there", probe, 2, 2);
        court.judge(1, 2, 0);
        // from 4,0 judge 0 lies aslant and judge 1 to the west
        hung("a judge there", probe, 4, 4);
        court.judge(1, 2, 4);
        // from 2,0 judge 0 and judge 1 have shadows: 2,3 2,4 and 2,5 2,6
        hung("of both at once", probe, 2, 4);
        court.lamp(0, 2, 0);
        // from 0,2 judge 0 lies to the east and judge 1 aslant
        hung("another lamp there", probe, 20, 8);
        probe.law("n(1=1);c10(1=1);a2(1=1);l9(1=1)");
        hung("by night and in clouds alike", probe, 20, 8);
        probe.market("0s/0s/0s/0s/0s/0s/0s/0s/0s/0s");
        hung("no plain spot", probe, -2, 0);
        probe.market("0s/0s/0s/0s/0s/0s/0s/9s./0s/0s");
        hung("one plain spot that does not help", probe, 79, 4);
        Due.end("HungTest");
    }

    private static void hung(String what, Probe probe, int spot, int many) {
        Due.is(what + ", spot", probe.court.hung(0), spot);
        Due.is(what + ", how many", probe.court.hung(1), many);
        Due.is(what + ", no more lamps", probe.court.count(3) & 14, 0);
    }
}
