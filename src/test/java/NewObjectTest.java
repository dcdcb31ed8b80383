/** Promises 1 (a new object) and 2 (feed). */
public final class NewObjectTest {
    public static void main(String[] args) {
        isEmptyAtFirst();
        feedsTwentyBytes();
        refusesTooMany();
        objectsAreApart();
        Due.end("NewObjectTest");
    }

    private static void isEmptyAtFirst() {
        ShadowCourt court = new ShadowCourt();
        Due.is("NONE", ShadowCourt.NONE, -1);
        int[] want = {0, 0, 0, 0, 0, 0, 0, 1, 0};
        for (int what = 0; what < want.length; what++) {
            Due.is("new count(" + what + ")", court.count(what), want[what]);
        }
        for (int spot = 0; spot < 100; spot++) {
            Due.is("new spot " + spot, court.count(100 + spot), 0);
        }
        Due.is("no judge", court.count(10), -1);
        Due.is("no steps", court.count(20), 0);
        Due.is("no lamp", court.count(30), -1);
        Due.is("no felon", court.felonIs(0, 0), -1);
        Due.no("nothing is kept", court.undo());
        Due.is("nothing is owed", court.minutes(1), 0);
        Due.is("THE SEED is 1", court.count(7), (25173 + 13849) % 65536);
    }

    private static void feedsTwentyBytes() {
        ShadowCourt court = new ShadowCourt();
        // the highest byte of each int first: "nesw" and then "...."
        Due.is("feed", court.feed(0x6e657377, 0x2e2e2e2e, 0, -1, 1 << 31), 20);
        Due.is("tape", court.count(6), 20);
        Due.is("walk of what was fed", court.walk(0, 8), 8);
        Due.is("tape is empty then", court.count(6), 0);
        court.feed(0, 255, -1, 0x01020304, 1 << 31);
        Due.is("bytes come back as they were", court.check(5), 1);
    }

    private static void refusesTooMany() {
        ShadowCourt court = new ShadowCourt();
        for (int i = 1; i <= 13; i++) {
            Due.is("feed " + i, court.feed(1, 2, 3, 4, 5), 20 * i);
        }
        Due.is("a fourteenth feed", court.feed(1, 2, 3, 4, 5), -1);
        Due.is("the tape stays", court.count(6), 260);
    }

    private static void objectsAreApart() {
        ShadowCourt one = new ShadowCourt();
        ShadowCourt other = new ShadowCourt();
        one.judge(0, 1, 1);
        one.feed(0, 0, 0, 0, 0);
        Due.is("another court's judges", other.count(1), 0);
        Due.is("another court's tape", other.count(6), 0);
    }
}
