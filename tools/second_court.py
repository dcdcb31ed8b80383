"""A second ShadowCourt, written from the document alone and in other ways than the Java one.

It is slow and plain on purpose: laws are trees, days are copied whole, ways are all gone
through. tools/random_runs.py lets it answer random runs; the Java class must answer the same.
"""
import copy
import itertools

NONE = -1
WAYS = [(0, 1), (1, 1), (1, 0), (1, -1), (0, -1), (-1, -1), (-1, 0), (-1, 1)]
STEPS = [(0, 1), (1, 0), (0, -1), (-1, 0)]
STAY = 4
PLAIN, WALL, STAIRS, RIVER = range(4)
LAST_MINUTE = 9999


class Refused(Exception):
    """Something is divided by 0."""


class Fault(Exception):
    def __init__(self, number, place):
        super().__init__()
        self.answer = -1000 * number - place


def wrap(value):
    return (value + 2**31) % 2**32 - 2**31


# ---- the languages

def read_market(text):
    rows, row, at = [], [], 0
    while at < len(text):
        sign = text[at]
        if sign == '/':
            if len(row) < 10 or len(rows) == 9:
                raise Fault(1, at)
            rows.append(row)
            row = []
            at += 1
            continue
        times = 1
        if sign in '234567890':
            times = int(sign) or 10
            if len(row) + times > 10:
                raise Fault(6, at)
            at += 1
            sign = text[at:at + 1]
        if not sign or sign not in '.#sr':
            raise Fault(1, at)
        if len(row) + times > 10:
            raise Fault(6, at)
        row += ['.#sr'.index(sign)] * times
        at += 1
    if len(rows) < 9 or len(row) < 10:
        raise Fault(1, at)
    return [kind for row in rows + [row] for kind in row]


def read_walk(text):
    def steps(at, depth, before):
        """STEPS from a place on, so many having been ahead of them: they, and where they end."""
        out = []
        while True:
            start = at
            times = 1
            if text[at:at + 1] in list('23456789'):
                times = int(text[at])
                at += 1
            sign = text[at:at + 1]
            if sign == '(':
                if depth == 2:
                    raise Fault(5, at)
                inner, at = steps(at + 1, depth + 1, before + len(out))
                out += inner * times
            elif sign and sign in 'nesw.':
                out += ['nesw.'.index(sign)] * times
            else:
                raise Fault(1, at)
            at += 1
            if before + len(out) > 60:
                raise Fault(6, start)
            if depth and text[at:at + 1] == ')' or not depth and at == len(text):
                return out, at

    return steps(0, 0, 0)[0]


class LawText:
    def __init__(self, text):
        self.text = text
        self.at = 0

    def sign(self):
        return self.text[self.at:self.at + 1] or '\n'

    def fail(self, number):
        raise Fault(number, self.at)

    def need(self, sign):
        if self.sign() != sign:
            self.fail(1)
        self.at += 1

    def enter(self, depth):
        if depth >= 6:
            self.fail(5)
        self.at += 1

    def clauses(self):
        out = []
        while True:
            letter = self.sign()
            if letter not in 'alcnvo':
                self.fail(1)
            if len(out) == 16:
                self.fail(4)
            self.at += 1
            worth = None if letter == 'n' else self.chain('+-', 0)
            self.need('(')
            asked = self.parts(1)
            self.need(')')
            out.append((letter, worth, asked))
            if self.at == len(self.text):
                return out
            self.need(';')

    def parts(self, depth):
        parts = [self.pieces(depth)]
        while self.sign() == '|':
            self.at += 1
            parts.append(self.pieces(depth))
        return ('|', parts)

    def pieces(self, depth):
        pieces = [self.piece(depth)]
        while self.sign() == '&':
            self.at += 1
            pieces.append(self.piece(depth))
        return ('&', pieces)

    def piece(self, depth):
        if self.sign() == '!':
            self.enter(depth)
            return ('!', self.piece(depth + 1))
        if self.sign() == '(':
            self.enter(depth)
            inner = self.parts(depth + 1)
            self.need(')')
            return inner
        left = self.chain('+-', depth)
        compared = self.sign()
        if compared not in '<>=':
            self.fail(1)
        self.at += 1
        return (compared, left, self.chain('+-', depth))

    def chain(self, signs, depth):
        def link():
            return self.chain('*/%', depth) if signs == '+-' else self.factor(depth)

        left = link()
        while self.sign() in signs:
            sign = self.sign()
            self.at += 1
            left = (sign, left, link())
        return left

    def factor(self, depth):
        sign = self.sign()
        if sign == '[':
            self.enter(depth)
            inner = self.chain('+-', depth + 1)
            self.need(']')
            return inner
        if sign in '0123456789':
            digits = ''
            while self.sign() in '0123456789':
                if len(digits) == 5:
                    self.fail(2)
                digits += self.sign()
                self.at += 1
            return ('number', int(digits))
        if sign in 'thjfwbs':
            self.at += 1
            return ('letter', sign)
        return self.fail(1)


def worth(tree, told):
    sign = tree[0]
    if sign == 'number':
        return tree[1]
    if sign == 'letter':
        return told.get(tree[1], 0)
    left, right = worth(tree[1], told), worth(tree[2], told)
    if sign in '/%' and right == 0:
        raise Refused()
    if sign in '/%':
        through = abs(left) // abs(right)
        if (left < 0) != (right < 0):
            through = -through
        return wrap(through if sign == '/' else left - through * right)
    return wrap({'+': left + right, '-': left - right, '*': left * right}[sign])


def holds(tree, told):
    sign = tree[0]
    if sign == '|':
        return any(holds(part, told) for part in tree[1])
    if sign == '&':
        return all(holds(piece, told) for piece in tree[1])
    if sign == '!':
        return not holds(tree[1], told)
    left, right = worth(tree[1], told), worth(tree[2], told)
    return {'<': left < right, '>': left > right, '=': left == right}[sign]


# ---- the court

class Felon:
    def __init__(self, spot, owed):
        self.spot = spot
        self.owed = owed
        self.away = 0
        self.drowned = 0

    def must_serve(self):
        return self.owed > 0 and not self.drowned


class Day:
    def __init__(self):
        self.judges = [None, None]
        self.walks = [[], []]
        self.felons = [None] * 10
        self.minute = 0
        self.x = 1
        self.times_away = self.cloudy = self.steps = 0

    def told(self):
        return [felon for felon in self.felons if felon]

    def owed(self):
        return sum(felon.owed for felon in self.told())


def is_in(number, least, most):
    return least <= number <= most


def bits(row):
    return sum(1 << i for i, value in enumerate(row) if value is not None)


class SecondCourt:
    def __init__(self):
        self.tape = b''
        self.kinds = [PLAIN] * 100
        self.clauses = []
        self.lamps = [None] * 4
        self.day = Day()
        self.kept = None

    # -- the tape and its texts

    def feed(self, *numbers):
        if len(self.tape) + 20 > 260:
            return NONE
        for number in numbers:
            self.tape += (number & 0xffffffff).to_bytes(4, 'big')
        return len(self.tape)

    def take(self, n, least, most):
        if not is_in(n, least, most) or n > len(self.tape):
            return None
        taken, self.tape = self.tape[:n], b''
        return taken

    def market(self, n):
        taken = self.take(n, 1, 140)
        if taken is None:
            return NONE
        try:
            self.kinds = read_market(taken.decode('latin1'))
        except Fault as fault:
            return fault.answer
        gone = [spot for spot in range(100) if self.kinds[spot] in (WALL, RIVER)]
        self.day.judges = [None if spot in gone else spot for spot in self.day.judges]
        self.day.felons = [None if felon and felon.spot in gone else felon
                           for felon in self.day.felons]
        self.lamps = [None if spot in gone else spot for spot in self.lamps]
        self.kept = None
        return 100 - self.kinds.count(PLAIN)

    def law(self, n):
        taken = self.take(n, 1, 240)
        if taken is None:
            return NONE
        try:
            self.clauses = LawText(taken.decode('latin1')).clauses()
        except Fault as fault:
            return fault.answer
        return len(self.clauses)

    def walk(self, j, n):
        taken = self.take(n, 1, 80) if j in (0, 1) else None
        if taken is None:
            return NONE
        try:
            self.day.walks[j] = read_walk(taken.decode('latin1'))
        except Fault as fault:
            return fault.answer
        return len(self.day.walks[j])

    # -- who is told

    def open_spot(self, x, y):
        if not is_in(x, 0, 9) or not is_in(y, 0, 9):
            return None
        return 10 * y + x if self.kinds[10 * y + x] in (PLAIN, STAIRS) else None

    def judge(self, j, x, y):
        spot = self.open_spot(x, y)
        if j not in (0, 1) or spot is None or self.day.judges[1 - j] == spot:
            return False
        self.day.judges[j] = spot
        return True

    def felon(self, f, x, y, owed):
        spot = self.open_spot(x, y)
        if not is_in(f, 0, 9) or spot is None or not is_in(owed, 0, 999):
            return False
        self.day.felons[f] = Felon(spot, owed)
        return True

    def lamp(self, i, x, y):
        spot = self.open_spot(x, y)
        if not is_in(i, 0, 3) or x != NONE and spot is None:
            return False
        self.lamps[i] = spot
        return True

    # -- the law as it stands

    def by_law(self, letter, most, minute, **told):
        told.update(t=minute, h=minute // 60 % 24)
        for kind, value, asked in self.clauses:
            if kind != letter:
                continue
            try:
                if not holds(asked, told):
                    continue
            except Refused:
                continue
            try:
                return min(max(worth(value, told), 0), most)
            except Refused:
                return 0
        return 0

    def is_night(self, minute):
        for kind, _, asked in self.clauses:
            try:
                if kind == 'n' and holds(asked, dict(t=minute, h=minute // 60 % 24)):
                    return True
            except Refused:
                pass
        return False

    def of_felon(self, letter, most, day, f):
        felon = day.felons[f]
        on_stairs = int(self.kinds[felon.spot] == STAIRS)
        return self.by_law(letter, most, day.minute,
                           **dict(f=f, w=felon.owed, b=felon.away, s=on_stairs))

    # -- shadows and ways

    def ray(self, spot, way, length):
        x, y = spot % 10, spot // 10
        out = []
        for _ in range(length):
            x, y = x + WAYS[way][0], y + WAYS[way][1]
            if not is_in(x, 0, 9) or not is_in(y, 0, 9) or self.kinds[10 * y + x] == WALL:
                break
            out.append(10 * y + x)
        return out

    def shadows(self, day, of_judges, lamps):
        fallen = []
        for j, spot in enumerate(day.judges):
            if spot is None:
                continue
            if of_judges:
                way = self.by_law('a', 7, day.minute, j=j)
                fallen += self.ray(spot, way, self.by_law('l', 9, day.minute, j=j))
            for lamp in lamps:
                for way in range(8):
                    if lamp is not None and spot in self.ray(lamp, way, 4):
                        fallen += self.ray(spot, way, 2)
        return {spot: fallen.count(spot) for spot in fallen}

    def shadows_now(self):
        lamps = self.lamps if self.is_night(self.day.minute) else []
        return self.shadows(self.day, True, lamps)

    def reach(self, start, most, dry):
        """Spots to which at most so many STEPS lead, and how many."""
        found = {start: 0}
        edge = [start]
        for steps in range(1, most + 1):
            ahead = []
            for spot in edge:
                for dx, dy in STEPS:
                    x, y = spot % 10 + dx, spot // 10 + dy
                    near = 10 * y + x
                    if not is_in(x, 0, 9) or not is_in(y, 0, 9) or near in found:
                        continue
                    if self.kinds[near] == WALL or dry and self.kinds[near] == RIVER:
                        continue
                    found[near] = steps
                    ahead.append(near)
            edge = ahead
        return found

    # -- minutes

    def judges_step(self, day):
        for j in (0, 1):
            if day.judges[j] is None or not day.walks[j]:
                continue
            step, day.walks[j] = day.walks[j][0], day.walks[j][1:]
            if step != STAY:
                dx, dy = STEPS[step]
                spot = self.open_spot(day.judges[j] % 10 + dx, day.judges[j] // 10 + dy)
                if spot is not None and spot != day.judges[1 - j]:
                    day.judges[j] = spot

    def one_minute(self, day, ahead):
        self.judges_step(day)
        day.x = (25173 * day.x + 13849) % 65536
        cloudy = day.x % 10 < self.by_law('c', 10, day.minute)
        day.cloudy += cloudy
        night = self.is_night(day.minute)
        shadows = self.shadows(day, not cloudy, self.lamps if night else [])
        line = [f for f in range(10) if day.felons[f] and day.felons[f].must_serve()]
        rank = {f: self.of_felon('o', 999, day, f) for f in line}
        line.sort(key=lambda f: (f != ahead, -rank[f], f))
        taken = {}
        for f in line:
            felon = day.felons[f]
            near = self.reach(felon.spot, self.of_felon('v', 3, day, f), False)
            found = sorted((near[spot], spot) for spot in shadows
                           if spot in near and spot not in taken)
            if found:
                day.steps += found[0][0]
                felon.spot = found[0][1]
                taken[felon.spot] = felon
            else:
                felon.away = min(felon.away + 1, 999)
                day.times_away += 1
        for spot, felon in taken.items():
            served = shadows[spot]
            if night:
                served = 1 if day.minute % 3 == 0 else 0
            felon.owed = max(felon.owed - served, 0)
            if self.kinds[spot] == RIVER:
                felon.drowned = 1
        day.minute += 1

    def go_on(self, day, n, ahead=None):
        before = day.owed()
        for _ in range(n):
            if day.minute < LAST_MINUTE:
                self.one_minute(day, ahead)
        return before - day.owed()

    def copied(self):
        day = copy.deepcopy(self.day)
        day.times_away = day.cloudy = day.steps = 0
        return day

    def minutes(self, n):
        return self.go_on(self.day, n) if is_in(n, 1, 120) else NONE

    def tried(self, n, what):
        known = is_in(what, 0, 5)
        known = known or is_in(what, 10, 29) and self.day.felons[what % 10] is not None
        known = known or is_in(what, 30, 31) and self.day.judges[what - 30] is not None
        if not is_in(n, 1, 120) or not known:
            return NONE
        day = self.copied()
        less = self.go_on(day, n)
        if what >= 30:
            return day.judges[what - 30]
        if what >= 20:
            return day.felons[what - 20].owed
        if what >= 10:
            return day.felons[what - 10].spot
        return [less, day.times_away, sum(felon.drowned for felon in day.told()), day.cloudy,
                day.steps, sum(felon.owed == 0 for felon in day.told())][what]

    # -- asked

    def felonIs(self, f, what):
        if not is_in(f, 0, 9) or not self.day.felons[f] or not is_in(what, 0, 5):
            return NONE
        felon = self.day.felons[f]
        return [felon.spot, felon.owed, felon.away, felon.drowned,
                self.of_felon('v', 3, self.day, f),
                self.shadows_now().get(felon.spot, 0)][what]

    def shade(self, x, y):
        if not is_in(x, 0, 9) or not is_in(y, 0, 9):
            return NONE
        return self.shadows_now().get(10 * y + x, 0)

    def atOnce(self, what):
        if not is_in(what, 0, 2):
            return NONE
        shadows = self.shadows_now()
        if what == 1:
            return len(shadows)
        if what == 2:
            return sum(times > 1 for times in shadows.values())
        can = []
        for f, felon in enumerate(self.day.felons):
            if felon and felon.must_serve():
                near = self.reach(felon.spot, self.of_felon('v', 3, self.day, f), False)
                can.append({spot for spot in shadows if spot in near})
        sets = {0}
        for spot in shadows:
            sets |= {served | 1 << i for served in sets for i, spots in enumerate(can)
                     if not served >> i & 1 and spot in spots}
        return max(bin(served).count('1') for served in sets)

    def walked(self, n):
        """The SHADOWS of JUDGES behind each of n MINUTES of their WALKS."""
        day = self.copied()
        for _ in range(n):
            if day.minute < LAST_MINUTE:
                self.judges_step(day)
                yield self.shadows(day, True, [])
                day.minute += 1

    def fewest(self, f, n, k):
        if not is_in(f, 0, 9) or not self.day.felons[f] or not is_in(n, 1, 30):
            return NONE
        if not is_in(k, 1, n):
            return NONE
        steps = {(self.day.felons[f].spot, 0): 0}
        for shadows in self.walked(n):
            then = {}
            for (spot, times), so_far in steps.items():
                for near, more in self.reach(spot, 3, True).items():
                    key = (near, times + (near in shadows))
                    then[key] = min(then.get(key, 1000), so_far + more)
            steps = then
        good = [so_far for (_, times), so_far in steps.items() if times >= k]
        return min(good) if good else -2

    def home(self, j, m, what):
        if j not in (0, 1) or self.day.judges[j] is None or not is_in(m, 1, 5):
            return NONE
        if what != 10 and not is_in(what, 0, m - 1):
            return NONE
        best = None
        for way in itertools.product(range(5), repeat=m):
            day = self.copied()
            day.walks[j] = list(way)
            less = self.go_on(day, m)
            if best is None or less > best[0]:
                best = (less, way)
        return best[0] if what == 10 else best[1][what]

    def first(self, n, what):
        if not is_in(n, 1, 60) or what not in (0, 1):
            return NONE
        best, who = self.go_on(self.copied(), n), -2
        for f, felon in enumerate(self.day.felons):
            if felon and felon.must_serve():
                less = self.go_on(self.copied(), n, f)
                if less > best:
                    best, who = less, f
        return who if what == 0 else best

    def dark(self, n, what):
        if not is_in(n, 1, 60) or not is_in(what, 0, 2):
            return NONE
        times = [0] * 100
        for shadows in self.walked(n):
            for spot in shadows:
                times[spot] += 1
        spots = [spot for spot in range(100) if self.kinds[spot] != WALL]
        if what == 0:
            return sum(times[spot] == 0 for spot in spots)
        if not spots:
            return [0, -2, 0][what]
        best = min(spots, key=lambda spot: (-times[spot], spot))
        return best if what == 1 else times[best]

    def hung(self, what):
        if what not in (0, 1):
            return NONE
        taken = self.day.judges + self.lamps + [felon.spot for felon in self.day.told()]
        spots = [spot for spot in range(100)
                 if self.kinds[spot] == PLAIN and spot not in taken]
        if not spots:
            return [-2, 0][what]
        many = {spot: len(self.shadows(self.day, False, self.lamps + [spot])) for spot in spots}
        best = min(spots, key=lambda spot: (-many[spot], spot))
        return best if what == 0 else many[best]

    # -- by bytes of the tape

    def prints(self, n, what):
        taken = self.take(n, 2, 20) if what in (0, 1) else None
        if taken is None:
            return NONE
        if max(taken) > 99:
            return -3
        made = {}
        for f, felon in enumerate(self.day.felons):
            if felon:
                row = [felon.spot] + list(taken)
                made[f] = 0
                while made[f] < n and row[made[f] + 1] in self.reach(row[made[f]], 3, True):
                    made[f] += 1
        if what == 0:
            return sum(1 << f for f in made if made[f] == n)
        if not made:
            return -4
        return -2 if max(made.values()) == n else max(made.values())

    def cloudy(self, n, served, what):
        taken = None
        if is_in(served, 0, 90) and is_in(what, 0, 2):
            taken = self.take(n, 1, 10)
        if taken is None:
            return NONE
        if min(taken) < 1 or max(taken) > 9:
            return -3
        fit = [clouds for clouds in range(1 << n)
               if sum(taken[i] for i in range(n) if not clouds >> i & 1) == served]
        if what == 0:
            return len(fit)
        if not fit:
            return -2
        if what == 1:
            return fit[0]
        return sum(1 << i for i in range(n) if all(clouds >> i & 1 for clouds in fit))

    def together(self, n, what):
        if not is_in(n, 1, 8) or not is_in(what, 0, 2) or len(self.tape) < 2 * n + 1:
            return NONE
        m = self.tape[2 * n]
        taken = self.take(2 * n + 1 + 2 * m, 0, 260 + 512)
        if taken is None:
            return NONE
        places = taken[2 * n + 1:]
        if m > 12 or any(place >= n for place in places):
            return -2
        lengths = [256 * taken[2 * i] + taken[2 * i + 1] for i in range(n)]
        groups = [{i} for i in range(n)]
        for one, other in zip(places[::2], places[1::2]):
            joined = set().union(*(g for g in groups if one in g or other in g))
            groups = [g for g in groups if not g & joined] + [joined]
        longest = [max(lengths[i] for i in group) for group in groups]
        return [sum(longest), len(longest), max(longest)][what]

    def servedBy(self, n, what):
        needed = {0: [0], 1: [1], 2: [0, 1]}.get(what)
        if not is_in(n, 1, 60) or needed is None:
            return NONE
        if any(self.day.judges[j] is None for j in needed):
            return NONE
        day = self.copied()
        if what < 2:
            day.judges[1 - what] = None
        return self.go_on(day, n)

    # -- kept

    def seed(self, x):
        if not is_in(x, 0, 65535):
            return False
        self.day.x = x
        return True

    def keep(self):
        self.kept = self.copied()
        return self.day.minute

    def undo(self):
        if self.kept is None:
            return False
        self.day = copy.deepcopy(self.kept)
        return True

    def check(self, n):
        taken = self.take(4 * n, 0, 40)
        if taken is None:
            return -2
        for i in range(n):
            felon = self.day.felons[i]
            owed = felon.owed if felon else 0
            if int.from_bytes(taken[4 * i:4 * i + 4], 'big', signed=True) != owed:
                return i
        return NONE

    def count(self, what):
        day = self.day
        counted = [day.minute, bits(day.judges), bits(day.felons), bits(self.lamps), day.owed(),
                   len(self.clauses), len(self.tape), day.x, int(self.is_night(day.minute))]
        if is_in(what, 0, 8):
            return counted[what]
        spot = None
        if is_in(what, 10, 11):
            spot = day.judges[what - 10]
        elif is_in(what, 20, 21):
            return len(day.walks[what - 20])
        elif is_in(what, 30, 33):
            spot = self.lamps[what - 30]
        elif is_in(what, 100, 199):
            return self.kinds[what - 100]
        return NONE if spot is None else spot
