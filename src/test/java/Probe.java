/** A court that takes texts and rows of bytes in place of numbers for the tape. */
final class Probe {
    final ShadowCourt court = new ShadowCourt();

    /** A court in which shadows fall eastwards, three spots long, and felons make two steps. */
    static Probe eastward() {
        Probe probe = new Probe();
        probe.law("a2(1=1);l3(1=1);v2(1=1)");
        return probe;
    }

    /** Empties the tape, then feeds the bytes and as many more as it takes to have twenties. */
    void feed(int... bytes) {
        court.check(0);
        for (int i = 0; i < bytes.length; i += 20) {
            int[] numbers = new int[5];
            for (int k = 0; k < 20; k++) {
                int next = i + k < bytes.length ? bytes[i + k] & 255 : 'a';
                numbers[k / 4] = numbers[k / 4] << 8 | next;
            }
            court.feed(numbers[0], numbers[1], numbers[2], numbers[3], numbers[4]);
        }
    }

    void feed(String text) {
        feed(bytesOf(text));
    }

    static int[] bytesOf(String text) {
        int[] bytes = new int[text.length()];
        for (int i = 0; i < bytes.length; i++) {
            bytes[i] = text.charAt(i);
        }
        return bytes;
    }

    int market(String text) {
        feed(text);
        return court.market(text.length());
    }

    /** A plain market but for some rows: y, its text, y, its text .. */
    int marketWith(Object... rows) {
        String[] all = {"0.", "0.", "0.", "0.", "0.", "0.", "0.", "0.", "0.", "0."};
        for (int i = 0; i + 1 < rows.length; i += 2) {
            all[(Integer) rows[i]] = (String) rows[i + 1];
        }
        return market(String.join("/", all));
    }

    int law(String text) {
        feed(text);
        return court.law(text.length());
    }

    int walk(int j, String text) {
        feed(text);
        return court.walk(j, text.length());
    }

    int prints(int what, int... spots) {
        feed(spots);
        return court.prints(spots.length, what);
    }

    int cloudy(int served, int what, int... minutes) {
        feed(minutes);
        return court.cloudy(minutes.length, served, what);
    }

    int together(int n, int what, int... bytes) {
        feed(bytes);
        return court.together(n, what);
    }

    int check(int... owed) {
        int[] bytes = new int[4 * owed.length];
        for (int i = 0; i < bytes.length; i++) {
            bytes[i] = owed[i / 4] >> 24 - 8 * (i % 4) & 255;
        }
        feed(bytes);
        return court.check(owed.length);
    }

    /** Lets minutes go by up to a minute. */
    void goTo(int minute) {
        while (court.count(0) < minute) {
            court.minutes(Math.min(120, minute - court.count(0)));
        }
    }
}
