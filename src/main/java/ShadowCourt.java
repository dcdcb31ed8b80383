/**
 * A market, judges who walk about in it, the shadows that they throw, and felons who serve in
 * these shadows, minute by minute. The document calls the parts by name; so does this file.
 */
public final class ShadowCourt {
    public static final int NONE = -1;

    private static final int NOT_POSSIBLE = -2;
    private static final int OUT_OF_BOUNDS = -3;
    private static final int NO_FELON = -4;

    private static final int SIDE = 10;
    private static final int SPOTS = 100;
    private static final int JUDGES = 2;
    private static final int FELONS = 10;
    private static final int LAMPS = 4;
    private static final int MOST_OWED = 999;
    private static final int MOST_AWAY = 999;
    private static final int LAST_MINUTE = 9999;
    private static final int MOST_STEPS = 60;
    private static final int MOST_SENTENCES = 8;

    private static final int PLAIN = 0;
    private static final int WALL = 1;
    private static final int STAIRS = 2;
    private static final int RIVER = 3;

    private static final int[] WAY_X = {0, 1, 1, 1, 0, -1, -1, -1};
    private static final int[] WAY_Y = {1, 1, 0, -1, -1, -1, 0, 1};

    private static final int STAY = 4;

    private final Tape tape;
    private final Market market;
    private final Law law;
    private final LawReader lawReader;
    private final WalkReader walkReader;
    private final Clock clock;
    private final Foresight foresight;
    private final Crowd crowd;
    private final Day now;
    private final Day kept;
    private final int[] groupOf;
    private boolean isKept;

    public ShadowCourt() {
        tape = new Tape();
        market = new Market();
        law = new Law();
        lawReader = new LawReader(tape);
        walkReader = new WalkReader(tape);
        clock = new Clock(market, law);
        now = new Day();
        kept = new Day();
        foresight = new Foresight(clock, now);
        crowd = new Crowd(clock);
        groupOf = new int[MOST_SENTENCES];
        isKept = false;
    }

    public int feed(int a, int b, int c, int d, int e) {
        if (tape.length > Tape.ROOM - 20) {
            return NONE;
        }
        tape.putNumber(a);
        tape.putNumber(b);
        tape.putNumber(c);
        tape.putNumber(d);
        tape.putNumber(e);
        return tape.length;
    }

    public int market(int n) {
        if (!isIn(n, 1, 140) || n > tape.length) {
            return NONE;
        }
        tape.open(n);
        boolean stands = market.readFrom(tape);
        tape.drop();
        if (!stands) {
            return tape.fault;
        }
        sendAwayWhoCannotStand();
        isKept = false;
        return SPOTS - market.howMany(PLAIN);
    }

    public int law(int n) {
        if (!isIn(n, 1, 240) || n > tape.length) {
            return NONE;
        }
        tape.open(n);
        boolean stands = lawReader.readWhole();
        tape.drop();
        if (!stands) {
            return tape.fault;
        }
        law.copyFrom(lawReader.written);
        return law.clauses;
    }

    public boolean judge(int j, int x, int y) {
        int spot = market.openSpot(x, y);
        if (!isIn(j, 0, JUDGES - 1) || spot == NONE || now.judgeSpot[1 - j] == spot) {
            return false;
        }
        now.judgeSpot[j] = spot;
        return true;
    }

    public int walk(int j, int n) {
        if (!isIn(j, 0, JUDGES - 1) || !isIn(n, 1, 80) || n > tape.length) {
            return NONE;
        }
        tape.open(n);
        boolean stands = walkReader.readWhole();
        tape.drop();
        if (!stands) {
            return tape.fault;
        }
        now.setWalk(j, walkReader.copyOfSteps());
        return walkReader.size;
    }

    public boolean felon(int f, int x, int y, int owed) {
        int spot = market.openSpot(x, y);
        if (!isIn(f, 0, FELONS - 1) || spot == NONE || !isIn(owed, 0, MOST_OWED)) {
            return false;
        }
        now.setFelon(f, spot, owed);
        return true;
    }

    public boolean lamp(int i, int x, int y) {
        if (!isIn(i, 0, LAMPS - 1)) {
            return false;
        }
        int spot = market.openSpot(x, y);
        if (x != NONE && spot == NONE) {
            return false;
        }
        clock.lampSpot[i] = spot;
        return true;
    }

    public int minutes(int n) {
        return isIn(n, 1, 120) ? clock.goOn(now, n, NONE) : NONE;
    }

    public int tried(int n, int what) {
        if (!isIn(n, 1, 120) || !canBeTried(what)) {
            return NONE;
        }
        Day day = foresight.copyOfNow();
        int less = clock.goOn(day, n, NONE);
        switch (what) {
            case 0: return less;
            case 1: return day.timesAway;
            case 2: return day.howManyDrowned();
            case 3: return day.cloudyMinutes;
            case 4: return day.felonSteps;
            case 5: return day.howManyOweNothing();
            default: break;
        }
        if (isIn(what, 10, 19)) {
            return day.felonSpot[what - 10];
        }
        if (isIn(what, 20, 29)) {
            return day.owed[what - 20];
        }
        return isIn(what, 30, 31) ? day.judgeSpot[what - 30] : NONE;
    }

    public int felonIs(int f, int what) {
        if (!now.hasFelon(f)) {
            return NONE;
        }
        switch (what) {
            case 0: return now.felonSpot[f];
            case 1: return now.owed[f];
            case 2: return now.away[f];
            case 3: return now.drowned[f] ? 1 : 0;
            case 4: return clock.reachOf(now, f);
            case 5: return clock.shadowsAt(now, now.felonSpot[f]);
            default: return NONE;
        }
    }

    public int shade(int x, int y) {
        int spot = Market.spotAt(x, y);
        return spot == NONE ? NONE : clock.shadowsAt(now, spot);
    }

    public int atOnce(int what) {
        if (!isIn(what, 0, 2)) {
            return NONE;
        }
        clock.castCloudless(now);
        if (what == 0) {
            return crowd.most(now);
        }
        return what == 1 ? clock.shadows.size : clock.shadows.howManyInMore();
    }

    public int fewest(int f, int n, int k) {
        if (!now.hasFelon(f) || !isIn(n, 1, 30) || !isIn(k, 1, n)) {
            return NONE;
        }
        return foresight.fewestSteps(now.felonSpot[f], n, k);
    }

    public int home(int j, int m, int what) {
        if (!now.hasJudge(j) || !isIn(m, 1, Foresight.LONGEST_WAY)) {
            return NONE;
        }
        if (what != 10 && !isIn(what, 0, m - 1)) {
            return NONE;
        }
        int less = foresight.leastOwedWay(j, m);
        return what == 10 ? less : foresight.bestWay[what];
    }

    public int first(int n, int what) {
        if (!isIn(n, 1, 60) || !isIn(what, 0, 1)) {
            return NONE;
        }
        int less = foresight.bestAhead(n);
        return what == 0 ? foresight.bestFelon : less;
    }

    public int dark(int n, int what) {
        if (!isIn(n, 1, 60) || !isIn(what, 0, 2)) {
            return NONE;
        }
        foresight.countShadedMinutes(n);
        if (what == 0) {
            return foresight.howManyNeverShaded();
        }
        int spot = foresight.mostShaded();
        if (what == 1) {
            return spot == NONE ? NOT_POSSIBLE : spot;
        }
        return spot == NONE ? 0 : foresight.shadedMinutes[spot];
    }

    public int hung(int what) {
        if (!isIn(what, 0, 1)) {
            return NONE;
        }
        int bestSpot = NOT_POSSIBLE;
        int most = NONE;
        for (int spot = 0; spot < SPOTS; spot++) {
            if (!isFreeForLamp(spot)) {
                continue;
            }
            int many = clock.spotsInLampShadows(now, spot);
            if (many > most) {
                most = many;
                bestSpot = spot;
            }
        }
        return what == 0 ? bestSpot : Math.max(most, 0);
    }

    public int prints(int n, int what) {
        if (!isIn(n, 2, 20) || !isIn(what, 0, 1) || n > tape.length) {
            return NONE;
        }
        int answer = NONE;
        if (hasBytesBeyond(n, 0, SPOTS - 1)) {
            answer = OUT_OF_BOUNDS;
        } else if (what == 0) {
            answer = printMakers(n);
        } else {
            answer = printsFailAt(n);
        }
        tape.drop();
        return answer;
    }

    public int cloudy(int n, int served, int what) {
        if (!isIn(n, 1, 10) || !isIn(served, 0, 90) || !isIn(what, 0, 2) || n > tape.length) {
            return NONE;
        }
        int answer = hasBytesBeyond(n, 1, 9) ? OUT_OF_BOUNDS : cloudySets(n, served, what);
        tape.drop();
        return answer;
    }

    public int together(int n, int what) {
        if (!isIn(n, 1, MOST_SENTENCES) || !isIn(what, 0, 2) || tape.length < 2 * n + 1) {
            return NONE;
        }
        int twos = tape.byteAt(2 * n);
        if (tape.length < 2 * n + 1 + 2 * twos) {
            return NONE;
        }
        int answer = NOT_POSSIBLE;
        if (twos <= 12 && areAllPlaces(n, twos)) {
            answer = sentencesTogether(n, twos, what);
        }
        tape.drop();
        return answer;
    }

    public int servedBy(int n, int what) {
        if (!isIn(n, 1, 60) || !isIn(what, 0, 2)) {
            return NONE;
        }
        if (what != 1 && !now.hasJudge(0) || what != 0 && !now.hasJudge(1)) {
            return NONE;
        }
        Day day = foresight.copyOfNow();
        if (what < 2) {
            day.judgeSpot[1 - what] = NONE;
        }
        return clock.goOn(day, n, NONE);
    }

    public boolean seed(int x) {
        if (!isIn(x, 0, 65535)) {
            return false;
        }
        now.drawState = x;
        return true;
    }

    public int keep() {
        kept.copyFrom(now);
        isKept = true;
        return now.minute;
    }

    public boolean undo() {
        if (isKept) {
            now.copyFrom(kept);
        }
        return isKept;
    }

    public int check(int n) {
        if (!isIn(n, 0, FELONS) || 4 * n > tape.length) {
            return NOT_POSSIBLE;
        }
        int wrong = NONE;
        for (int f = 0; f < n && wrong == NONE; f++) {
            if (tape.numberAt(4 * f) != now.owed[f]) {
                wrong = f;
            }
        }
        tape.drop();
        return wrong;
    }

    public int count(int what) {
        switch (what) {
            case 0: return now.minute;
            case 1: return bitsOfTold(now.judgeSpot);
            case 2: return bitsOfTold(now.felonSpot);
            case 3: return bitsOfTold(clock.lampSpot);
            case 4: return now.owedByAll();
            case 5: return law.clauses;
            case 6: return tape.length;
            case 7: return now.drawState;
            case 8: return law.isNight(now.minute) ? 1 : 0;
            default: break;
        }
        if (isIn(what, 10, 11)) {
            return now.judgeSpot[what - 10];
        }
        if (isIn(what, 20, 21)) {
            return now.stepsLeft(what - 20);
        }
        if (isIn(what, 30, 33)) {
            return clock.lampSpot[what - 30];
        }
        return isIn(what, 100, 199) ? market.kindAt(what - 100) : NONE;
    }

    private static boolean isIn(int number, int least, int most) {
        return number >= least && number <= most;
    }

    private static int bitsOfTold(int[] spots) {
        int bits = 0;
        for (int i = 0; i < spots.length; i++) {
            if (spots[i] != NONE) {
                bits |= 1 << i;
            }
        }
        return bits;
    }

    private void sendAwayWhoCannotStand() {
        for (int j = 0; j < JUDGES; j++) {
            if (!market.isOpen(now.judgeSpot[j])) {
                now.judgeSpot[j] = NONE;
            }
        }
        for (int f = 0; f < FELONS; f++) {
            if (!market.isOpen(now.felonSpot[f])) {
                now.setFelon(f, NONE, 0);
            }
        }
        for (int i = 0; i < LAMPS; i++) {
            if (!market.isOpen(clock.lampSpot[i])) {
                clock.lampSpot[i] = NONE;
            }
        }
    }

    private boolean canBeTried(int what) {
        if (isIn(what, 10, 29)) {
            return now.hasFelon(what % 10);
        }
        return isIn(what, 0, 5) || isIn(what, 30, 31) && now.hasJudge(what - 30);
    }

    private boolean isFreeForLamp(int spot) {
        return market.kindAt(spot) == PLAIN && !holds(now.judgeSpot, spot)
            && !holds(now.felonSpot, spot) && !holds(clock.lampSpot, spot);
    }

    private static boolean holds(int[] spots, int spot) {
        for (int i = 0; i < spots.length; i++) {
            if (spots[i] == spot) {
                return true;
            }
        }
        return false;
    }

    private boolean hasBytesBeyond(int n, int least, int most) {
        for (int i = 0; i < n; i++) {
            if (!isIn(tape.byteAt(i), least, most)) {
                return true;
            }
        }
        return false;
    }

    /** The first print (1 on) that does not follow from the one ahead of it; n, if all do. */
    private int brokenPrint(int n) {
        for (int i = 1; i < n; i++) {
            if (!market.isDryWalk(tape.byteAt(i - 1), tape.byteAt(i))) {
                return i;
            }
        }
        return n;
    }

    /** FELONS (bits) that can come to the first print. */
    private int printStarters() {
        int bits = 0;
        for (int f = 0; f < FELONS; f++) {
            if (now.hasFelon(f) && market.isDryWalk(now.felonSpot[f], tape.byteAt(0))) {
                bits |= 1 << f;
            }
        }
        return bits;
    }

    private int printMakers(int n) {
        return brokenPrint(n) == n ? printStarters() : 0;
    }

    private int printsFailAt(int n) {
        if (bitsOfTold(now.felonSpot) == 0) {
            return NO_FELON;
        }
        if (printStarters() == 0) {
            return 0;
        }
        int broken = brokenPrint(n);
        return broken == n ? NOT_POSSIBLE : broken;
    }

    /** What is asked of the sets of cloudy MINUTES behind which just so much was served. */
    private int cloudySets(int n, int served, int what) {
        int sets = 0;
        int lowest = NOT_POSSIBLE;
        int sure = NONE;
        for (int set = 0; set < 1 << n; set++) {
            if (servedOutside(set, n) != served) {
                continue;
            }
            if (sets == 0) {
                lowest = set;
            }
            sets++;
            sure &= set;
        }
        if (what == 0) {
            return sets;
        }
        return what == 1 || sets == 0 ? lowest : sure;
    }

    private int servedOutside(int set, int n) {
        int sum = 0;
        for (int i = 0; i < n; i++) {
            if ((set >> i & 1) == 0) {
                sum += tape.byteAt(i);
            }
        }
        return sum;
    }

    private boolean areAllPlaces(int n, int twos) {
        for (int i = 0; i < 2 * twos; i++) {
            if (tape.byteAt(2 * n + 1 + i) >= n) {
                return false;
            }
        }
        return true;
    }

    private int sentencesTogether(int n, int twos, int what) {
        groupSentences(n, twos);
        int sum = 0;
        int groups = 0;
        int longest = 0;
        for (int g = 0; g < n; g++) {
            int length = longestOfGroup(n, g);
            if (length != NONE) {
                groups++;
                sum += length;
                longest = Math.max(longest, length);
            }
        }
        return what == 0 ? sum : what == 1 ? groups : longest;
    }

    private void groupSentences(int n, int twos) {
        for (int i = 0; i < n && i < MOST_SENTENCES; i++) {
            groupOf[i] = i;
        }
        for (int i = 0; i < twos; i++) {
            int one = tape.byteAt(2 * n + 1 + 2 * i);
            int other = tape.byteAt(2 * n + 2 + 2 * i);
            if (isIn(one, 0, n - 1) && isIn(other, 0, n - 1)) {
                joinGroups(n, groupOf[one], groupOf[other]);
            }
        }
    }

    private void joinGroups(int n, int to, int from) {
        for (int i = 0; i < n; i++) {
            if (groupOf[i] == from) {
                groupOf[i] = to;
            }
        }
    }

    /** The longest SENTENCE of a group; NONE, if no SENTENCE is in it. */
    private int longestOfGroup(int n, int g) {
        int longest = NONE;
        for (int i = 0; i < n; i++) {
            if (groupOf[i] == g) {
                longest = Math.max(longest, 256 * tape.byteAt(2 * i) + tape.byteAt(2 * i + 1));
            }
        }
        return longest;
    }

    /** The bytes that were fed and not used yet; their front is read as a TEXT, sign by sign. */
    private static final class Tape {
        private static final int ROOM = 260;

        private final int[] bytes;
        private int length;
        private int end;
        private int at;
        private int fault;

        private Tape() {
            bytes = new int[ROOM];
            length = 0;
            end = 0;
            at = 0;
            fault = 0;
        }

        private void putNumber(int number) {
            for (int shift = 24; shift >= 0; shift -= 8) {
                if (length >= 0 && length < ROOM) {
                    bytes[length] = number >> shift & 255;
                    length++;
                }
            }
        }

        private int byteAt(int place) {
            return place >= 0 && place < length ? bytes[place] : NONE;
        }

        private int numberAt(int place) {
            int number = 0;
            for (int i = 0; i < 4; i++) {
                number = number << 8 | byteAt(place + i) & 255;
            }
            return number;
        }

        private void drop() {
            length = 0;
        }

        /** Lets the first n bytes be read as a TEXT. */
        private void open(int n) {
            end = Math.min(n, length);
            at = 0;
            fault = 0;
        }

        /** The next sign; NONE at the end. */
        private int sign() {
            return at >= 0 && at < end && at < ROOM ? bytes[at] : NONE;
        }

        private boolean isDigit() {
            return sign() >= '0' && sign() <= '9';
        }

        /** Goes on behind the sign that must stand here; another one can't stand here. */
        private boolean passes(int sign) {
            if (sign() != sign) {
                return fails(1, at);
            }
            at++;
            return true;
        }

        private boolean fails(int number, int place) {
            fault = -1000 * number - place;
            return false;
        }
    }

    /** What the spots are, and how many STEPS lead from one to another (up to three). */
    private static final class Market {
        private static final int FAR = 9;

        private final int[] kinds;
        private final int[] drawn;
        // How far spots are from spot s stands in row s, and a row is reckoned when it is first
        // asked for: of most spots nobody ever asks, of some thousands of times.
        private final int[][] steps;
        private final boolean[] isReckoned;
        private final int[] drySteps;

        private Market() {
            kinds = new int[SPOTS];
            drawn = new int[SPOTS];
            steps = new int[SPOTS][SPOTS];
            isReckoned = new boolean[SPOTS];
            drySteps = new int[SPOTS];
        }

        private static int spotAt(int x, int y) {
            return x >= 0 && x < SIDE && y >= 0 && y < SIDE ? SIDE * y + x : NONE;
        }

        private static boolean isSpot(int spot) {
            return spot >= 0 && spot < SPOTS;
        }

        /** The next spot in one of the eight ways; NONE at the market's end. */
        private static int beside(int spot, int way) {
            if (spot < 0 || spot >= SPOTS || way < 0 || way >= 8) {
                return NONE;
            }
            int x = spot % SIDE + WAY_X[way];
            int y = spot / SIDE + WAY_Y[way];
            return x >= 0 && x < SIDE && y >= 0 && y < SIDE ? SIDE * y + x : NONE;
        }

        private int kindAt(int spot) {
            return spot >= 0 && spot < SPOTS ? kinds[spot] : WALL;
        }

        private boolean isOpen(int spot) {
            int kind = kindAt(spot);
            return kind != WALL && kind != RIVER;
        }

        private int openSpot(int x, int y) {
            int spot = spotAt(x, y);
            return isOpen(spot) ? spot : NONE;
        }

        private int howMany(int kind) {
            int many = 0;
            for (int spot = 0; spot < SPOTS; spot++) {
                if (kinds[spot] == kind) {
                    many++;
                }
            }
            return many;
        }

        /** Takes THE MARKET from a TEXT; with a FAULT in it all stays as it is. */
        private boolean readFrom(Tape tape) {
            for (int y = 0; y < SIDE; y++) {
                if (!readRow(tape, y)) {
                    return false;
                }
                if (kindOf(tape.sign()) != NONE || timesOf(tape.sign()) > 0) {
                    return tape.fails(6, tape.at);
                }
                if (!tape.passes(y < SIDE - 1 ? '/' : NONE)) {
                    return false;
                }
            }
            System.arraycopy(drawn, 0, kinds, 0, SPOTS);
            for (int i = 0; i < isReckoned.length; i++) {
                isReckoned[i] = false;
            }
            return true;
        }

        private boolean readRow(Tape tape, int y) {
            int x = 0;
            for (int turn = 0; turn < SIDE && x < SIDE; turn++) {
                int times = timesOf(tape.sign());
                if (x + times > SIDE) {
                    return tape.fails(6, tape.at);
                }
                if (times > 0) {
                    tape.at++;
                }
                int kind = kindOf(tape.sign());
                if (kind == NONE) {
                    return tape.fails(1, tape.at);
                }
                tape.at++;
                for (int end = x + Math.max(times, 1); x < end && x < SIDE; x++) {
                    drawn[SIDE * y + x] = kind;
                }
            }
            return true;
        }

        private static int kindOf(int sign) {
            switch (sign) {
                case '.': return PLAIN;
                case '#': return WALL;
                case 's': return STAIRS;
                case 'r': return RIVER;
                default: return NONE;
            }
        }

        private static int timesOf(int sign) {
            if (sign == '0') {
                return SIDE;
            }
            return sign >= '2' && sign <= '9' ? sign - '0' : 0;
        }

        /** Whether a walk of at most 3 STEPS, not through the river, leads from one to the other. */
        private boolean isDryWalk(int from, int to) {
            reckonRow(drySteps, from, true);
            return isSpot(to) && drySteps[to] < FAR;
        }

        /** The fewest STEPS, 0 to 3, from one spot to another; FAR, if there are more. */
        private int stepsBetween(int from, int to) {
            if (!isSpot(from) || !isSpot(to)) {
                return FAR;
            }
            if (!isReckoned[from]) {
                reckonRow(steps[from], from, false);
                isReckoned[from] = true;
            }
            return steps[from][to];
        }

        private void reckonRow(int[] row, int from, boolean dry) {
            for (int spot = 0; spot < row.length; spot++) {
                row[spot] = spot == from ? 0 : FAR;
            }
            for (int done = 0; done < 3; done++) {
                for (int i = 0; i < 4 * row.length; i++) {
                    int spot = i / 4;
                    int next = row[spot] == done ? beside(spot, 2 * (i % 4)) : NONE;
                    if (next < 0 || next >= row.length || row[next] != FAR) {
                        continue;
                    }
                    int kind = kindAt(next);
                    if (kind != WALL && !(dry && kind == RIVER)) {
                        row[next] = done + 1;
                    }
                }
            }
        }
    }

    /** THE LAW, written as orders for a small stack, so that it is read once and asked often. */
    private static final class Law {
        private static final int MOST_CLAUSES = 16;
        private static final int ORDERS = 300;
        private static final int STACK = 64;

        private static final int END = 0;
        private static final int NUMBER = 1;
        private static final int LETTER = 2;
        private static final int NOT = 3;
        private static final int SKIP_IF_NOT = 4;
        private static final int SKIP_IF = 5;

        private static final int[] LETTERS = {'t', 'h', 'j', 'f', 'w', 'b', 's'};

        private final int[] orders;
        private final int[] words;
        private int used;
        private final int[] kindOfClause;
        private final int[] worthAt;
        private final int[] askedAt;
        private int clauses;
        private final int[] told;
        private final int[] stack;

        private Law() {
            orders = new int[ORDERS];
            words = new int[ORDERS];
            used = 0;
            kindOfClause = new int[MOST_CLAUSES];
            worthAt = new int[MOST_CLAUSES];
            askedAt = new int[MOST_CLAUSES];
            clauses = 0;
            told = new int[LETTERS.length];
            stack = new int[STACK];
        }

        private void empty() {
            used = 0;
            clauses = 0;
        }

        private void copyFrom(Law other) {
            System.arraycopy(other.orders, 0, orders, 0, ORDERS);
            System.arraycopy(other.words, 0, words, 0, ORDERS);
            used = other.used;
            System.arraycopy(other.kindOfClause, 0, kindOfClause, 0, MOST_CLAUSES);
            System.arraycopy(other.worthAt, 0, worthAt, 0, MOST_CLAUSES);
            System.arraycopy(other.askedAt, 0, askedAt, 0, MOST_CLAUSES);
            clauses = other.clauses;
        }

        /** Puts one order more behind the others and answers its place. */
        private int put(int order, int word) {
            int place = used;
            if (place >= 0 && place < ORDERS) {
                orders[place] = order;
                words[place] = word;
                used++;
            }
            return place;
        }

        /** Lets a skip lead behind the last order. */
        private void landSkip(int place) {
            if (place >= 0 && place < ORDERS) {
                words[place] = used;
            }
        }

        private static int placeOfLetter(int sign) {
            for (int i = 0; i < LETTERS.length; i++) {
                if (LETTERS[i] == sign) {
                    return i;
                }
            }
            return NONE;
        }

        private void tellMinute(int minute) {
            for (int i = 2; i < told.length; i++) {
                told[i] = 0;
            }
            told[0] = minute;
            told[1] = minute / 60 % 24;
        }

        private void tellJudge(int minute, int j) {
            tellMinute(minute);
            told[2] = j;
        }

        private void tellFelon(int minute, int f, int owed, int away, int onStairs) {
            tellMinute(minute);
            told[3] = f;
            told[4] = owed;
            told[5] = away;
            told[6] = onStairs;
        }

        private boolean isNight(int minute) {
            tellMinute(minute);
            for (int i = 0; i < clauses; i++) {
                if (kindOfClause[i] == 'n' && reckon(askedAt[i]) != 0) {
                    return true;
                }
            }
            return false;
        }

        /** The E of the first CLAUSE of its kind that holds, as what is told stands, in its bounds. */
        private int worthOf(int kind, int most) {
            for (int i = 0; i < clauses; i++) {
                if (kindOfClause[i] == kind && reckon(askedAt[i]) != 0) {
                    return Math.max(0, Math.min(most, reckon(worthAt[i])));
                }
            }
            return 0;
        }

        /** Follows orders up to their END: what they come to; 0, if something is REFUSED. */
        private int reckon(int from) {
            int at = from;
            int top = 0;
            for (int turn = 0; turn < ORDERS && at >= 0 && at < used; turn++) {
                int order = orders[at];
                int word = words[at];
                at++;
                int last = stack[top];
                int below = top > 0 ? top - 1 : 0;
                switch (order) {
                    case END:
                        return last;
                    case NUMBER:
                    case LETTER:
                        top = top < STACK - 1 ? top + 1 : top;
                        stack[top] = order == NUMBER ? word : toldAt(word);
                        break;
                    case NOT:
                        stack[top] = last == 0 ? 1 : 0;
                        break;
                    case SKIP_IF:
                    case SKIP_IF_NOT:
                        if (last != 0 == (order == SKIP_IF)) {
                            at = word;
                        } else {
                            top = below;
                        }
                        break;
                    default:
                        if (last == 0 && (order == '/' || order == '%')) {
                            return 0;
                        }
                        top = below;
                        stack[top] = joined(order, stack[top], last);
                        break;
                }
            }
            return 0;
        }

        private int toldAt(int letter) {
            return letter >= 0 && letter < told.length ? told[letter] : 0;
        }

        private static int joined(int sign, int left, int right) {
            switch (sign) {
                case '+': return left + right;
                case '-': return left - right;
                case '*': return left * right;
                case '/': return right == 0 ? 0 : left / right;
                case '%': return right == 0 ? 0 : left % right;
                case '<': return left < right ? 1 : 0;
                case '>': return left > right ? 1 : 0;
                default: return left == right ? 1 : 0;
            }
        }
    }

    /** Reads THE LAW's language and writes it as orders. */
    private static final class LawReader {
        private static final int DEEPEST = 6;

        private final Tape tape;
        private final Law written;

        private LawReader(Tape tape) {
            this.tape = tape;
            written = new Law();
        }

        private boolean readWhole() {
            written.empty();
            for (int i = 0; i <= Law.MOST_CLAUSES; i++) {
                int kind = tape.sign();
                if (!isKind(kind)) {
                    return tape.fails(1, tape.at);
                }
                if (i == Law.MOST_CLAUSES) {
                    return tape.fails(4, tape.at);
                }
                tape.at++;
                if (!readClause(kind, i)) {
                    return false;
                }
                written.clauses = i + 1;
                if (tape.sign() == NONE) {
                    return true;
                }
                if (!tape.passes(';')) {
                    return false;
                }
            }
            return false;
        }

        private static boolean isKind(int sign) {
            return sign == 'a' || sign == 'l' || sign == 'c' || sign == 'n' || sign == 'v'
                || sign == 'o';
        }

        private boolean readClause(int kind, int i) {
            if (i < 0 || i >= Law.MOST_CLAUSES) {
                return false;
            }
            written.kindOfClause[i] = kind;
            written.worthAt[i] = written.used;
            if (kind != 'n' && !readSum(0)) {
                return false;
            }
            written.put(Law.END, 0);
            written.askedAt[i] = written.used;
            if (!tape.passes('(') || !readParts(1) || !tape.passes(')')) {
                return false;
            }
            written.put(Law.END, 0);
            return true;
        }

        /** C: PARTS with | between two. A skip leads to the next one, which leads on. */
        private boolean readParts(int depth) {
            if (!readPieces(depth)) {
                return false;
            }
            for (int turn = 0; turn < Law.ORDERS && tape.sign() == '|'; turn++) {
                tape.at++;
                int skip = written.put(Law.SKIP_IF, 0);
                if (!readPieces(depth)) {
                    return false;
                }
                written.landSkip(skip);
            }
            return true;
        }

        private boolean readPieces(int depth) {
            if (!readPiece(depth)) {
                return false;
            }
            for (int turn = 0; turn < Law.ORDERS && tape.sign() == '&'; turn++) {
                tape.at++;
                int skip = written.put(Law.SKIP_IF_NOT, 0);
                if (!readPiece(depth)) {
                    return false;
                }
                written.landSkip(skip);
            }
            return true;
        }

        private boolean readPiece(int depth) {
            int sign = tape.sign();
            if (sign == '!' || sign == '(') {
                if (depth >= DEEPEST) {
                    return tape.fails(5, tape.at);
                }
                tape.at++;
                if (sign == '(') {
                    return readParts(depth + 1) && tape.passes(')');
                }
                boolean stands = readPiece(depth + 1);
                written.put(Law.NOT, 0);
                return stands;
            }
            if (!readSum(depth)) {
                return false;
            }
            int compared = tape.sign();
            if (compared != '<' && compared != '>' && compared != '=') {
                return tape.fails(1, tape.at);
            }
            tape.at++;
            boolean stands = readSum(depth);
            written.put(compared, 0);
            return stands;
        }

        /** E: TERMS with + or - between two. */
        private boolean readSum(int depth) {
            if (!readTerm(depth)) {
                return false;
            }
            for (int turn = 0; turn < Law.ORDERS; turn++) {
                int sign = tape.sign();
                if (sign != '+' && sign != '-') {
                    return true;
                }
                tape.at++;
                if (!readTerm(depth)) {
                    return false;
                }
                written.put(sign, 0);
            }
            return false;
        }

        private boolean readTerm(int depth) {
            if (!readFactor(depth)) {
                return false;
            }
            for (int turn = 0; turn < Law.ORDERS; turn++) {
                int sign = tape.sign();
                if (sign != '*' && sign != '/' && sign != '%') {
                    return true;
                }
                tape.at++;
                if (!readFactor(depth)) {
                    return false;
                }
                written.put(sign, 0);
            }
            return false;
        }

        private boolean readFactor(int depth) {
            if (tape.isDigit()) {
                return readNumber();
            }
            int sign = tape.sign();
            if (sign == '[') {
                if (depth >= DEEPEST) {
                    return tape.fails(5, tape.at);
                }
                tape.at++;
                return readSum(depth + 1) && tape.passes(']');
            }
            int letter = Law.placeOfLetter(sign);
            if (letter == NONE) {
                return tape.fails(1, tape.at);
            }
            tape.at++;
            written.put(Law.LETTER, letter);
            return true;
        }

        private boolean readNumber() {
            int number = 0;
            for (int digits = 0; digits < 5 && tape.isDigit(); digits++) {
                number = 10 * number + tape.sign() - '0';
                tape.at++;
            }
            if (tape.isDigit()) {
                return tape.fails(2, tape.at);
            }
            written.put(Law.NUMBER, number);
            return true;
        }
    }

    /** Reads a WALK's language and writes its STEPS one behind the other. */
    private static final class WalkReader {
        private static final int DEEPEST = 2;
        private static final int LONGEST_TEXT = 80;

        private final Tape tape;
        private final int[] steps;
        private int size;

        private WalkReader(Tape tape) {
            this.tape = tape;
            steps = new int[MOST_STEPS];
            size = 0;
        }

        private boolean readWhole() {
            size = 0;
            return readSteps(0);
        }

        private int[] copyOfSteps() {
            int[] copy = new int[Math.max(0, Math.min(size, MOST_STEPS))];
            for (int i = 0; i < copy.length; i++) {
                copy[i] = steps[i];
            }
            return copy;
        }

        /** STEPS up to the end, or up to the ) of those that stand in rounds. */
        private boolean readSteps(int depth) {
            int closing = depth == 0 ? NONE : ')';
            for (int turn = 0; turn < LONGEST_TEXT; turn++) {
                if (!readStep(depth)) {
                    return false;
                }
                if (tape.sign() == closing) {
                    return true;
                }
            }
            return false;
        }

        private boolean readStep(int depth) {
            int start = tape.at;
            int before = size;
            int times = 1;
            if (tape.sign() >= '2' && tape.sign() <= '9') {
                times = tape.sign() - '0';
                tape.at++;
            }
            if (tape.sign() == '(') {
                if (depth >= DEEPEST) {
                    return tape.fails(5, tape.at);
                }
                tape.at++;
                if (!readSteps(depth + 1) || !tape.passes(')')) {
                    return false;
                }
                return repeat(before, times - 1) || tape.fails(6, start);
            }
            int step = stepOf(tape.sign());
            if (step == NONE) {
                return tape.fails(1, tape.at);
            }
            tape.at++;
            if (size >= MOST_STEPS) {
                return tape.fails(6, start);
            }
            steps[size] = step;
            size++;
            return repeat(before, times - 1) || tape.fails(6, start);
        }

        /** Puts the STEPS from a place on behind the last one, so many times. */
        private boolean repeat(int from, int times) {
            int length = size - from;
            if (size + times * length > MOST_STEPS) {
                return false;
            }
            for (int i = 0; i < times * length && from >= 0 && size < MOST_STEPS; i++) {
                steps[size] = steps[from + i];
                size++;
            }
            return true;
        }

        private static int stepOf(int sign) {
            switch (sign) {
                case 'n': return 0;
                case 'e': return 1;
                case 's': return 2;
                case 'w': return 3;
                case '.': return STAY;
                default: return NONE;
            }
        }
    }

    /** All that changes as MINUTES go by, and what was counted on the way. */
    private static final class Day {
        private final int[] judgeSpot;
        // A row here is never changed, only another one put in its place: days share them.
        private final int[][] walks;
        private final int[] stepsDone;
        private final int[] felonSpot;
        private final int[] owed;
        private final int[] away;
        private final boolean[] drowned;
        private int minute;
        private int drawState;
        private int timesAway;
        private int cloudyMinutes;
        private int felonSteps;

        private Day() {
            judgeSpot = new int[JUDGES];
            walks = new int[JUDGES][0];
            stepsDone = new int[JUDGES];
            felonSpot = new int[FELONS];
            owed = new int[FELONS];
            away = new int[FELONS];
            drowned = new boolean[FELONS];
            for (int j = 0; j < JUDGES; j++) {
                judgeSpot[j] = NONE;
            }
            for (int f = 0; f < FELONS; f++) {
                felonSpot[f] = NONE;
            }
            minute = 0;
            drawState = 1;
            timesAway = 0;
            cloudyMinutes = 0;
            felonSteps = 0;
        }

        private void copyFrom(Day other) {
            for (int j = 0; j < JUDGES; j++) {
                judgeSpot[j] = other.judgeSpot[j];
                walks[j] = other.walks[j];
                stepsDone[j] = other.stepsDone[j];
            }
            for (int f = 0; f < FELONS; f++) {
                felonSpot[f] = other.felonSpot[f];
                owed[f] = other.owed[f];
                away[f] = other.away[f];
                drowned[f] = other.drowned[f];
            }
            minute = other.minute;
            drawState = other.drawState;
            timesAway = other.timesAway;
            cloudyMinutes = other.cloudyMinutes;
            felonSteps = other.felonSteps;
        }

        private void clearCounts() {
            timesAway = 0;
            cloudyMinutes = 0;
            felonSteps = 0;
        }

        private void setWalk(int j, int[] steps) {
            if (j >= 0 && j < JUDGES && steps != null) {
                walks[j] = steps;
                stepsDone[j] = 0;
            }
        }

        private void setFelon(int f, int spot, int owes) {
            if (f >= 0 && f < FELONS) {
                felonSpot[f] = spot;
                owed[f] = owes;
                away[f] = 0;
                drowned[f] = false;
            }
        }

        private boolean hasJudge(int j) {
            return j >= 0 && j < JUDGES && judgeSpot[j] != NONE;
        }

        private boolean hasFelon(int f) {
            return f >= 0 && f < FELONS && felonSpot[f] != NONE;
        }

        private boolean mustServe(int f) {
            return hasFelon(f) && owed[f] > 0 && !drowned[f];
        }

        private int stepsLeft(int j) {
            return j >= 0 && j < JUDGES ? walks[j].length - stepsDone[j] : 0;
        }

        /** The next STEP of a WALK; a stay, if none is left. */
        private int takeStep(int j) {
            if (stepsLeft(j) <= 0 || stepsDone[j] < 0) {
                return STAY;
            }
            int step = walks[j][stepsDone[j]];
            stepsDone[j]++;
            return step;
        }

        private int draw() {
            drawState = (25173 * drawState + 13849) % 65536;
            return drawState % 10;
        }

        private int owedByAll() {
            int sum = 0;
            for (int f = 0; f < FELONS; f++) {
                sum += owed[f];
            }
            return sum;
        }

        private int howManyDrowned() {
            int many = 0;
            for (int f = 0; f < FELONS; f++) {
                many += hasFelon(f) && drowned[f] ? 1 : 0;
            }
            return many;
        }

        private int howManyOweNothing() {
            int many = 0;
            for (int f = 0; f < FELONS; f++) {
                many += hasFelon(f) && owed[f] == 0 ? 1 : 0;
            }
            return many;
        }
    }

    /** In how many SHADOWS each spot lies, and which spots lie in any. */
    private static final class Shadows {
        private final int[] layers;
        private final int[] spots;
        private final boolean[] isTaken;
        private int size;

        private Shadows() {
            layers = new int[SPOTS];
            spots = new int[SPOTS];
            isTaken = new boolean[SPOTS];
            size = 0;
        }

        private void clear() {
            for (int i = 0; i < size && i < SPOTS; i++) {
                int spot = spots[i];
                if (Market.isSpot(spot)) {
                    layers[spot] = 0;
                    isTaken[spot] = false;
                }
            }
            size = 0;
        }

        private int layersAt(int spot) {
            return Market.isSpot(spot) ? layers[spot] : 0;
        }

        /** A SHADOW of so many spots, from beside a spot on. */
        private void fall(Market market, int from, int way, int length) {
            int spot = from;
            for (int i = 0; i < length; i++) {
                spot = Market.beside(spot, way);
                if (market.kindAt(spot) == WALL || !Market.isSpot(spot)) {
                    return;
                }
                if (layers[spot] == 0 && size < SPOTS) {
                    spots[size] = spot;
                    size++;
                }
                layers[spot]++;
            }
        }

        private int howManyInMore() {
            int many = 0;
            for (int i = 0; i < size && i < SPOTS; i++) {
                many += layersAt(spots[i]) > 1 ? 1 : 0;
            }
            return many;
        }
    }

    /** Lets MINUTES go by on a day. */
    private static final class Clock {
        private static final int LAMP_REACH = 4;
        private static final int LAMP_SHADOW = 2;
        private static final int AHEAD_OF_ALL = 1000;

        private final Market market;
        private final Law law;
        private final int[] lampSpot;
        private final Shadows shadows;
        private final int[] line;
        private final int[] ranks;

        private Clock(Market market, Law law) {
            this.market = market;
            this.law = law;
            lampSpot = new int[LAMPS];
            for (int i = 0; i < LAMPS; i++) {
                lampSpot[i] = NONE;
            }
            shadows = new Shadows();
            line = new int[FELONS];
            ranks = new int[FELONS];
        }

        /** MINUTES, as many as can, with one FELON (or none) ahead of all: how much less is OWED. */
        private int goOn(Day day, int n, int ahead) {
            int before = day.owedByAll();
            for (int i = 0; i < n && day.minute < LAST_MINUTE; i++) {
                judgesStep(day);
                law.tellMinute(day.minute);
                boolean cloudy = day.draw() < law.worthOf('c', 10);
                if (cloudy) {
                    day.cloudyMinutes++;
                }
                boolean night = law.isNight(day.minute);
                cast(day, !cloudy, night);
                felonsGo(day, lineUp(day, ahead), night);
                day.minute++;
            }
            return before - day.owedByAll();
        }

        /** A MINUTE of the JUDGES' WALKS alone; false, if none can go by. */
        private boolean walkOn(Day day) {
            if (day.minute >= LAST_MINUTE) {
                return false;
            }
            judgesStep(day);
            cast(day, true, false);
            day.minute++;
            return true;
        }

        private void judgesStep(Day day) {
            for (int j = 0; j < JUDGES; j++) {
                if (!day.hasJudge(j)) {
                    continue;
                }
                int step = day.takeStep(j);
                if (step == STAY) {
                    continue;
                }
                int spot = Market.beside(day.judgeSpot[j], 2 * step);
                if (market.isOpen(spot) && day.judgeSpot[1 - j] != spot) {
                    day.judgeSpot[j] = spot;
                }
            }
        }

        private void castCloudless(Day day) {
            cast(day, true, law.isNight(day.minute));
        }

        private void cast(Day day, boolean ofJudges, boolean ofLamps) {
            shadows.clear();
            for (int j = 0; j < JUDGES && ofJudges; j++) {
                if (day.hasJudge(j)) {
                    law.tellJudge(day.minute, j);
                    int length = law.worthOf('l', 9);
                    if (length > 0) {
                        shadows.fall(market, day.judgeSpot[j], law.worthOf('a', 7), length);
                    }
                }
            }
            for (int i = 0; i < LAMPS && ofLamps; i++) {
                castOfLamp(day, lampSpot[i]);
            }
        }

        private void castOfLamp(Day day, int lamp) {
            for (int way = 0; way < WAY_X.length && lamp != NONE; way++) {
                int spot = lamp;
                for (int far = 0; far < LAMP_REACH; far++) {
                    spot = Market.beside(spot, way);
                    if (market.kindAt(spot) == WALL) {
                        break;
                    }
                    if (holds(day.judgeSpot, spot)) {
                        shadows.fall(market, spot, way, LAMP_SHADOW);
                    }
                }
            }
        }

        /** How many spots would lie in SHADOWS of LAMPS, with one more of them at a spot. */
        private int spotsInLampShadows(Day day, int more) {
            cast(day, false, true);
            castOfLamp(day, more);
            return shadows.size;
        }

        private int shadowsAt(Day day, int spot) {
            castCloudless(day);
            return shadows.layersAt(spot);
        }

        private void tellFelon(Day day, int f) {
            if (day.hasFelon(f)) {
                int onStairs = market.kindAt(day.felonSpot[f]) == STAIRS ? 1 : 0;
                law.tellFelon(day.minute, f, day.owed[f], day.away[f], onStairs);
            }
        }

        private int reachOf(Day day, int f) {
            tellFelon(day, f);
            return law.worthOf('v', 3);
        }

        /** Puts the FELONS that must serve in line, by o, all asked first: how many. */
        private int lineUp(Day day, int ahead) {
            int many = 0;
            for (int f = 0; f < FELONS; f++) {
                if (!day.mustServe(f)) {
                    continue;
                }
                tellFelon(day, f);
                int rank = f == ahead ? AHEAD_OF_ALL : law.worthOf('o', 999);
                int place = many;
                for (; place > 0 && ranks[place - 1] < rank; place--) {
                    line[place] = line[place - 1];
                    ranks[place] = ranks[place - 1];
                }
                line[place] = f;
                ranks[place] = rank;
                many++;
            }
            return many;
        }

        private void felonsGo(Day day, int many, boolean night) {
            for (int i = 0; i < many && i < FELONS; i++) {
                int f = line[i];
                if (!day.hasFelon(f)) {
                    continue;
                }
                int spot = shadows.size > 0 ? findShadow(day, f, reachOf(day, f)) : NONE;
                if (!Market.isSpot(spot)) {
                    day.timesAway++;
                    day.away[f] = Math.min(day.away[f] + 1, MOST_AWAY);
                    continue;
                }
                day.felonSpot[f] = spot;
                shadows.isTaken[spot] = true;
                int served = shadows.layersAt(spot);
                if (night) {
                    served = day.minute % 3 == 0 ? 1 : 0;
                }
                day.owed[f] = Math.max(day.owed[f] - served, 0);
                if (market.kindAt(spot) == RIVER) {
                    day.drowned[f] = true;
                }
            }
        }

        /** The nearest spot in a SHADOW that nobody took, of like ones the lowest; NONE. */
        private int findShadow(Day day, int f, int reach) {
            if (!day.hasFelon(f)) {
                return NONE;
            }
            int fewestSteps = reach + 1;
            int best = NONE;
            for (int i = 0; i < shadows.size && i < SPOTS; i++) {
                int spot = shadows.spots[i];
                if (!Market.isSpot(spot) || shadows.isTaken[spot]) {
                    continue;
                }
                int steps = market.stepsBetween(day.felonSpot[f], spot);
                if (steps < fewestSteps || steps == fewestSteps && spot < best) {
                    fewestSteps = steps;
                    best = spot;
                }
            }
            if (best != NONE) {
                day.felonSteps += fewestSteps;
            }
            return best;
        }
    }

    /** How many FELONS can be in THE SHADOWS at once: places are handed on till one is free. */
    private static final class Crowd {
        private final Clock clock;
        private final int[] reach;
        private final int[] placeOf;
        private final int[] holderOf;
        private final int[] reachedBy;
        private final int[] queue;

        private Crowd(Clock clock) {
            this.clock = clock;
            reach = new int[FELONS];
            placeOf = new int[FELONS];
            holderOf = new int[SPOTS];
            reachedBy = new int[SPOTS];
            queue = new int[FELONS];
        }

        /** By THE SHADOWS that the clock has cast last. */
        private int most(Day day) {
            for (int spot = 0; spot < SPOTS; spot++) {
                holderOf[spot] = NONE;
            }
            for (int f = 0; f < FELONS; f++) {
                placeOf[f] = NONE;
                reach[f] = day.mustServe(f) ? clock.reachOf(day, f) : NONE;
            }
            int many = 0;
            for (int f = 0; f < FELONS; f++) {
                if (day.mustServe(f) && findsPlace(day, f)) {
                    many++;
                }
            }
            return many;
        }

        private boolean findsPlace(Day day, int felon) {
            for (int spot = 0; spot < SPOTS; spot++) {
                reachedBy[spot] = NONE;
            }
            queue[0] = felon;
            int waiting = 1;
            for (int next = 0; next < waiting && next < FELONS; next++) {
                int f = queue[next];
                for (int i = 0; i < clock.shadows.size && i < SPOTS; i++) {
                    int spot = clock.shadows.spots[i];
                    if (!canGo(day, f, spot) || reachedBy[spot] != NONE) {
                        continue;
                    }
                    reachedBy[spot] = f;
                    if (holderOf[spot] == NONE) {
                        handOn(spot);
                        return true;
                    }
                    if (waiting < FELONS) {
                        queue[waiting] = holderOf[spot];
                        waiting++;
                    }
                }
            }
            return false;
        }

        private boolean canGo(Day day, int f, int spot) {
            return day.hasFelon(f) && Market.isSpot(spot)
                && clock.market.stepsBetween(day.felonSpot[f], spot) <= reach[f];
        }

        /** Gives a free place to who reached it, and the place that one had to who reached that. */
        private void handOn(int free) {
            int spot = free;
            for (int turn = 0; turn < FELONS && Market.isSpot(spot); turn++) {
                int f = reachedBy[spot];
                if (f < 0 || f >= FELONS) {
                    return;
                }
                int left = placeOf[f];
                holderOf[spot] = f;
                placeOf[f] = spot;
                spot = left;
            }
        }
    }

    /** What would be, tried on copies of the day. */
    private static final class Foresight {
        private static final int LONGEST_WAY = 5;
        private static final int MOST_WAYS = 3125;
        private static final int MOST_MINUTES = 30;
        private static final int NEVER = 1000000;

        private final Clock clock;
        private final Day now;
        private final Day[] days;
        private final int[][] singleSteps;
        private final int[] way;
        private final int[] bestWay;
        private int bestFelon;
        private final int[] shadedMinutes;
        // least[c][s]: the fewest STEPS by which one is at spot s with c MINUTES in a SHADOW.
        private final int[][] least;
        private final int[] spread;
        private final int[] wider;

        private Foresight(Clock clock, Day now) {
            this.clock = clock;
            this.now = now;
            days = new Day[LONGEST_WAY + 1];
            for (int i = 0; i <= LONGEST_WAY; i++) {
                days[i] = new Day();
            }
            singleSteps = new int[STAY + 1][1];
            for (int step = 0; step <= STAY; step++) {
                singleSteps[step][0] = step;
            }
            way = new int[LONGEST_WAY];
            bestWay = new int[LONGEST_WAY];
            bestFelon = NOT_POSSIBLE;
            shadedMinutes = new int[SPOTS];
            least = new int[MOST_MINUTES + 1][SPOTS];
            spread = new int[SPOTS];
            wider = new int[SPOTS];
        }

        private Day copyOfNow() {
            Day day = days[0];
            day.copyFrom(now);
            day.clearCounts();
            return day;
        }

        /**
         * Goes through all ways by their rows; of like ones the first is the least. Day i is the
         * one behind i STEPS, so that a way needs only the days from its first other STEP on.
         */
        private int leastOwedWay(int j, int m) {
            int owed = copyOfNow().owedByAll();
            int best = NEVER;
            int from = 0;
            for (int i = 0; i < LONGEST_WAY; i++) {
                way[i] = 0;
            }
            for (int turn = 0; turn < MOST_WAYS && from >= 0; turn++) {
                Day day = days[from];
                for (int i = from; i < m && i < LONGEST_WAY; i++) {
                    day = days[i + 1];
                    day.copyFrom(days[i]);
                    day.setWalk(j, stepAlone(way[i]));
                    clock.goOn(day, 1, NONE);
                }
                int left = day.owedByAll();
                if (left < best) {
                    best = left;
                    System.arraycopy(way, 0, bestWay, 0, LONGEST_WAY);
                }
                from = turnToNextWay(m);
            }
            return owed - best;
        }

        private int[] stepAlone(int step) {
            return singleSteps[step >= 0 && step <= STAY ? step : STAY];
        }

        /** The first STEP that is another one in the next way; NONE behind the last way. */
        private int turnToNextWay(int m) {
            for (int i = Math.min(m, LONGEST_WAY) - 1; i >= 0; i--) {
                if (way[i] < STAY) {
                    way[i]++;
                    return i;
                }
                way[i] = 0;
            }
            return NONE;
        }

        /** Which FELON, ahead of all, makes most be served: how much. */
        private int bestAhead(int n) {
            int most = clock.goOn(copyOfNow(), n, NONE);
            bestFelon = NOT_POSSIBLE;
            for (int f = 0; f < FELONS; f++) {
                if (!now.mustServe(f)) {
                    continue;
                }
                int less = clock.goOn(copyOfNow(), n, f);
                if (less > most) {
                    most = less;
                    bestFelon = f;
                }
            }
            return most;
        }

        private void countShadedMinutes(int n) {
            for (int spot = 0; spot < SPOTS; spot++) {
                shadedMinutes[spot] = 0;
            }
            Day day = copyOfNow();
            for (int i = 0; i < n && clock.walkOn(day); i++) {
                for (int k = 0; k < clock.shadows.size && k < SPOTS; k++) {
                    int spot = clock.shadows.spots[k];
                    if (Market.isSpot(spot)) {
                        shadedMinutes[spot]++;
                    }
                }
            }
        }

        private int howManyNeverShaded() {
            int many = 0;
            for (int spot = 0; spot < SPOTS; spot++) {
                many += clock.market.kindAt(spot) != WALL && shadedMinutes[spot] == 0 ? 1 : 0;
            }
            return many;
        }

        private int mostShaded() {
            int best = NONE;
            for (int spot = 0; spot < SPOTS; spot++) {
                if (clock.market.kindAt(spot) == WALL) {
                    continue;
                }
                if (best == NONE || shadedMinutes[spot] > shadedMinutes[best]) {
                    best = spot;
                }
            }
            return best;
        }

        private int fewestSteps(int from, int n, int k) {
            if (!isIn(k, 1, MOST_MINUTES) || !Market.isSpot(from)) {
                return NOT_POSSIBLE;
            }
            for (int c = 0; c <= k; c++) {
                for (int spot = 0; spot < SPOTS; spot++) {
                    least[c][spot] = NEVER;
                }
            }
            least[0][from] = 0;
            Day day = copyOfNow();
            for (int i = 0; i < n && clock.walkOn(day); i++) {
                // downwards: a row gives to the one above, which has had its MINUTE by then
                for (int c = Math.min(i, k); c >= 0; c--) {
                    spreadSteps(least[c]);
                    settle(c, k);
                }
            }
            int fewestSteps = NEVER;
            for (int spot = 0; spot < SPOTS; spot++) {
                fewestSteps = Math.min(fewestSteps, least[k][spot]);
            }
            return fewestSteps >= NEVER ? NOT_POSSIBLE : fewestSteps;
        }

        /** To where, and by how many STEPS, one comes in a MINUTE, at most three in it. */
        private void spreadSteps(int[] row) {
            System.arraycopy(row, 0, spread, 0, SPOTS);
            for (int turn = 0; turn < 3; turn++) {
                for (int spot = 0; spot < SPOTS; spot++) {
                    wider[spot] = Math.min(spread[spot], oneStepMore(spot));
                }
                System.arraycopy(wider, 0, spread, 0, SPOTS);
            }
        }

        private int oneStepMore(int spot) {
            int fewestSteps = NEVER;
            if (!clock.market.isOpen(spot)) {
                return fewestSteps;
            }
            for (int way = 0; way < 8; way += 2) {
                int from = Market.beside(spot, way);
                if (Market.isSpot(from)) {
                    fewestSteps = Math.min(fewestSteps, spread[from] + 1);
                }
            }
            return fewestSteps;
        }

        /** Who is in a SHADOW now has one MINUTE more of those that are asked for. */
        private void settle(int c, int k) {
            if (c < 0 || c > k || k > MOST_MINUTES) {
                return;
            }
            for (int spot = 0; spot < SPOTS; spot++) {
                boolean goesUp = c < k && clock.shadows.layersAt(spot) > 0;
                if (goesUp) {
                    least[c + 1][spot] = Math.min(least[c + 1][spot], spread[spot]);
                    least[c][spot] = NEVER;
                } else {
                    least[c][spot] = spread[spot];
                }
            }
        }
    }
}
