/** Promise 26: check. */
public final class CheckTest {
    public static void main(String[] args) {
        Probe probe = new Probe();
        ShadowCourt court = probe.court;
        court.felon(0, 1, 1, 7);
        court.felon(2, 1, 1, 999);
        court.felon(9, 1, 1, 1);
        Due.is("n -1", court.check(-1), -2);
        Due.is("n 11", court.check(11), -2);
        Due.is("not so many", court.check(1), -2);
        Due.is("none asked", court.check(0), -1);
        Due.is("right", probe.check(7, 0, 999), -1);
        Due.is("the tape is empty then", court.count(6), 0);
        Due.is("all right", probe.check(7, 0, 999, 0, 0, 0, 0, 0, 0, 1), -1);
        Due.is("the first is not", probe.check(8), 0);
        Due.is("the tape is empty then", court.count(6), 0);
        Due.is("the first that is not so", probe.check(7, 1, 998), 1);
        Due.is("the third", probe.check(7, 0, 998), 2);
        Due.is("the tenth", probe.check(7, 0, 999, 0, 0, 0, 0, 0, 0, 2), 9);
        Due.is("below 0", probe.check(-7), 0);
        Due.is("higher bytes count", probe.check(7 + 65536), 0);
        probe.feed(0, 0, 0, 7);
        Due.is("six of five numbers", court.check(6), -2);
        Due.is("the tape stays", court.count(6), 20);
        Due.is("one of five", court.check(1), -1);
        court.feed(0, 0, 0, 0, 0);
        Due.is("none of five", court.check(0), -1);
        Due.is("the tape is empty then", court.count(6), 0);
        Due.end("CheckTest");
    }
}
