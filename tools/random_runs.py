"""Writes random runs of calls with the answers of the second court.

    python3 tools/random_runs.py SEED RUNS > runs.txt

Each run begins with the line 'new'; each line then is a call, ' = ' and its answer.
RecordedRunsTest asks the Java class for the same.
"""
import random
import sys

from second_court import SecondCourt

SCALES = [(1, 0, 0, 0), (20, 1, 1, 2), (12, 1, 1, 1), (8, 1, 1, 1), (5, 2, 1, 2), (10, 1, 3, 0),
          (6, 0, 1, 3), (3, 5, 1, 1)] * 4 + [(0, 1, 0, 0), (0, 1, 1, 1)]
LAW_SIGNS = 'alcnvothjfwbs0123456789[]()!&|<>=+-*/%; x'


class Texts:
    """Texts in the languages, and such with faults in them."""

    def __init__(self, rng):
        self.rng = rng

    def market(self):
        scale = self.rng.choice(SCALES)
        return '/'.join(self.row(scale) for _ in range(10))

    def row(self, scale):
        row = self.rng.choices('.#sr', scale, k=10)
        out, x = '', 0
        while x < 10:
            end = x
            while end < 10 and row[end] == row[x]:
                end += 1
            times = end - x
            if self.rng.random() < .3:
                times = self.rng.randint(1, times)
            if times == 1 or self.rng.random() < .2:
                out += row[x] * times
            else:
                out += str(times % 10) + row[x]
            x += times
        return out

    def walk(self, depth=0):
        out = ''
        for _ in range(self.rng.randint(1, 5)):
            if self.rng.random() < .4:
                out += self.rng.choice('23456789'[:self.rng.choice([2, 4, 8])])
            if depth < 2 + (self.rng.random() < .05) and self.rng.random() < .35:
                out += '(' + self.walk(depth + 1) + ')'
            else:
                out += self.rng.choice('nesw.nesw')
        return out[:80]

    def law(self):
        kind = self.rng.random()
        if kind < .75:
            return self.useful_law()
        if kind < .85:
            return self.deep_law()
        out = []
        for _ in range(self.rng.choice([1, 2, 3, 4, 6, 8])):
            letter = self.rng.choice('alcnvo')
            worth = '' if letter == 'n' else self.sum(self.rng.randint(0, 3))
            out.append(letter + worth + '(' + self.parts(self.rng.randint(0, 3)) + ')')
        if self.rng.random() < .2:
            out = ['n(t=0)'] * self.rng.choice([16, 17, 18])
        return ';'.join(out)

    def useful_law(self):
        choice, chance = self.rng.choice, self.rng.random

        def asked():
            return '(' + choice(['0=0'] * 4 + ['t%2=0', 't%3=1', 'w>2', 'f<3', 'j=0', 'b>1',
                                               's=1', 'h<1', '5/t>0', self.parts(1)]) + ')'

        def number(least, most):
            return str(self.rng.randint(least, most))

        out = ['a' + choice([number(0, 7), 't%8', 'j+2', 't/3%8', '2+j*4']) + asked(),
               'l' + choice([number(1, 9), 't%5+1', '3+j', '5']) + asked(),
               'v' + choice(['3', '2', '1', '1+s*2', '3-b', 'w%4', 'f%4']) + asked()]
        if chance() < .4:
            out.append('a' + number(0, 7) + '(0=0)')
        if chance() < .7:
            out.append('l' + number(1, 9) + '(0=0)')
        if chance() < .7:
            out.append('v3(0=0)')
        if chance() < .4:
            out.append('c' + choice([number(0, 10), 't%11']) + asked())
        if chance() < .35:
            out.append('n(' + choice(['0=0', 't%2=0', 't%6>2', 'h<1', 'w=0']) + ')')
        if chance() < .6:
            out.append('o' + choice(['w', '100-w', 'f', 'b*3', 's*10+f', '[f*7+t]%5', 'w*w'])
                       + asked())
        if chance() < .2:
            self.rng.shuffle(out)
        return ';'.join(out)

    def deep_law(self):
        opened = [self.rng.choice('((!') for _ in range(self.rng.randint(3, 8))]
        brackets = self.rng.randint(0, 3)
        asked = ''.join(opened) + '[' * brackets + 't' + ']' * brackets + '=3'
        asked += ')' * opened.count('(')
        brackets = self.rng.randint(0, 7)
        return self.rng.choice(['n', 'l' + '[' * brackets + '5' + ']' * brackets]) + '(' + asked + ')'

    def number(self):
        return self.rng.choice(['0', '1', '2', '3', '5', '7', '10', '60', '99', '12345', '99999',
                                str(self.rng.randint(0, 20))])

    def sum(self, depth):
        kind = self.rng.random()
        if depth <= 0 or kind < .45:
            return self.rng.choice([self.number(), self.rng.choice('thjfwbs')])
        if kind < .6:
            return '[' + self.sum(depth - 1) + ']'
        return self.sum(depth - 1) + self.rng.choice('+-*/%') + self.sum(depth - 1)

    def parts(self, depth):
        return '|'.join('&'.join(self.piece(depth) for _ in range(self.rng.choice([1, 1, 1, 2, 3])))
                        for _ in range(self.rng.choice([1, 1, 2, 3])))

    def piece(self, depth):
        kind = self.rng.random()
        if depth > 0 and kind < .15:
            return '!' + self.piece(depth - 1)
        if depth > 0 and kind < .35:
            return '(' + self.parts(depth - 1) + ')'
        return (self.sum(self.rng.choice([0, 0, 1, 2])) + self.rng.choice('<>=')
                + self.sum(self.rng.choice([0, 0, 1, 2])))

    def spoilt(self, text, signs):
        row = list(text)
        for _ in range(self.rng.choice([1, 1, 1, 2, 3])):
            place = self.rng.randint(0, len(row))
            kind = self.rng.random()
            if kind < .4 and place < len(row):
                row[place] = self.rng.choice(signs)
            elif kind < .7:
                row.insert(place, self.rng.choice(signs))
            elif kind < .9:
                del row[place:place + 1]
            else:
                row = row[:max(place, 1)]
        return ''.join(row)


class Run:
    """One run of calls on a new court."""

    def __init__(self, rng):
        self.rng = rng
        self.texts = Texts(rng)
        self.court = SecondCourt()
        self.lines = []

    def call(self, name, *numbers):
        answer = int(getattr(self.court, name)(*numbers))
        self.lines.append(' '.join([name] + [str(number) for number in numbers])
                          + ' = ' + str(answer))

    def feed(self, data, ask):
        """Feeds bytes and asks by so many of them, now and then by others."""
        if isinstance(data, str):
            data = data.encode('latin1')
        if self.court.tape and self.rng.random() < .95:
            self.call('check', 0)
        n = len(data)
        padded = data + bytes([self.rng.choice([0, 97, self.rng.randrange(256)])]) * (-n % 20)
        for i in range(0, len(padded), 20):
            self.call('feed', *(int.from_bytes(padded[i + k:i + k + 4], 'big', signed=True)
                                for k in range(0, 20, 4)))
        ask(n + self.rng.choice([-1, 1, 30]) if self.rng.random() < .03 else n)

    def open_spot(self):
        if self.rng.random() < .05:
            return self.rng.randint(-2, 11), self.rng.randint(-2, 11)
        for _ in range(30):
            spot = self.rng.randrange(100)
            if self.court.kinds[spot] in (0, 2):
                break
        return spot % 10, spot // 10

    def spot_near(self):
        judges = [spot for spot in self.court.day.judges if spot is not None]
        if not judges or self.rng.random() < .2:
            return self.open_spot()
        spot = self.rng.choice(judges)
        for _ in range(10):
            x, y = spot % 10 + self.rng.randint(-4, 4), spot // 10 + self.rng.randint(-4, 4)
            if self.court.open_spot(x, y) is not None:
                break
        return x, y

    def give_market(self):
        text = self.texts.market()
        if self.rng.random() < .3:
            text = self.texts.spoilt(text, '.#sr23456789010/x')
        self.feed(text, lambda n: self.call('market', n))

    def give_law(self, spoils=True):
        text = self.texts.law()
        if spoils and self.rng.random() < .3:
            text = self.texts.spoilt(text, LAW_SIGNS)
        self.feed(text[:self.rng.choice([240, 240, 245])], lambda n: self.call('law', n))

    def give_walk(self, judge):
        text = self.texts.walk()
        if self.rng.random() < .2:
            text = self.texts.spoilt(text, 'nesw.()234567890 x1')
        self.feed(text, lambda n: self.call('walk', judge, n))

    def begin(self):
        if self.rng.random() < .8:
            self.feed(self.texts.market(), lambda n: self.call('market', n))
        self.give_law(False)
        for judge in (0, 1):
            if self.rng.random() < .9:
                self.call('judge', judge, *self.open_spot())
            if self.rng.random() < .8:
                self.give_walk(judge)
        for felon in range(self.rng.randint(0, 10)):
            self.call('felon', felon, *self.spot_near(), self.rng.choice([0, 1, 2, 3, 5, 50, 999]))
        for lamp in range(self.rng.randint(0, 4)):
            self.call('lamp', lamp, *self.spot_near())
        if self.rng.random() < .5:
            self.call('seed', self.rng.choice([0, 1, 65535, self.rng.randint(0, 65535)]))

    def some_n(self, most):
        return self.rng.choice([0, 1, 1, 2, 3, 5, 10, most, self.rng.randint(1, most), most + 1])

    def give_prints(self):
        told = [felon.spot for felon in self.court.day.told()]
        spot = self.rng.choice(told + [self.rng.randrange(100)])
        row = []
        for _ in range(self.rng.randint(1, 21)):
            for _ in range(self.rng.randint(0, 4)):
                dx, dy = self.rng.choice([(0, 1), (1, 0), (0, -1), (-1, 0)])
                x, y = spot % 10 + dx, spot // 10 + dy
                if self.court.open_spot(x, y) is not None or self.rng.random() < .02:
                    spot = 10 * min(max(y, 0), 9) + min(max(x, 0), 9)
            row.append(spot)
        if self.rng.random() < .08:
            row[self.rng.randrange(len(row))] = self.rng.choice([100, 200, 255])
        what = self.rng.choice([0, 1, 0, 1, 2])
        self.feed(bytes(row), lambda n: self.call('prints', n, what))

    def give_cloudy(self):
        row = [self.rng.randint(1, 9) for _ in range(self.rng.randint(0, 11))]
        served = self.rng.choice([sum(m for m in row if self.rng.random() < .5),
                                  self.rng.randint(-1, 91)])
        if row and self.rng.random() < .1:
            row[self.rng.randrange(len(row))] = self.rng.choice([0, 10, 255])
        what = self.rng.choice([0, 1, 2, 0, 1, 2, 3])
        self.feed(bytes(row), lambda n: self.call('cloudy', n, served, what))

    def give_together(self):
        n, m = self.rng.randint(0, 9), self.rng.choice([0, 1, 2, 3, 5, 8, 12, 13])
        row = []
        for _ in range(n):
            row += [self.rng.choice([0, 0, 1, 255]), self.rng.randrange(256)]
        row += [m] + [self.rng.randrange(max(n, 1)) + (self.rng.random() < .02)
                      for _ in range(2 * m)]
        what = self.rng.choice([0, 1, 2, 0, 1, 2, 3])
        self.feed(bytes(row), lambda _: self.call('together', n, what))

    def give_check(self):
        n = self.rng.randint(-1, 11)
        row = b''
        for felon in (self.court.day.felons + [None])[:max(n, 0)]:
            owed = felon.owed if felon else 0
            if self.rng.random() < .05:
                owed = self.rng.choice([owed + 1, -1, owed + 65536])
            row += owed.to_bytes(4, 'big', signed=True)
        self.feed(row, lambda _: self.call('check', n))

    def ask(self):
        """One more call, or a text and the call that reads it."""
        choice, number = self.rng.choice, self.rng.randint
        n30 = number(0, 31)
        way = choice([1, 1, 2, 2, 3, 0, 6])
        asks = [
            (1.5, self.give_market),
            (4, self.give_law),
            (5, lambda: self.give_walk(choice([0, 1, 0, 1, 0, 1, 2, -1]))),
            (4, lambda: self.call('judge', choice([0, 1, 0, 1, 2, -1]), *self.spot_near())),
            (8, lambda: self.call('felon', number(-1, 10), *self.spot_near(),
                                  choice([-1, 0, 1, 2, 3, 5, 9, 20, 999, 1000]))),
            (3, lambda: self.call('lamp', number(-1, 4), *self.spot_near())),
            (1, lambda: self.call('lamp', number(0, 3), -1, number(-3, 12))),
            (6, lambda: self.call('minutes', choice([0, 1, 1, 1, 2, 3, 5, 10, number(1, 121)]))),
            (10, lambda: self.call('tried', self.some_n(120), choice(
                [0, 1, 2, 3, 4, 5, 6, number(10, 19), number(20, 29), 30, 31, 32, 9, -1]))),
            (4, lambda: self.call('felonIs', number(-1, 10), number(-1, 6))),
            (4, lambda: self.call('shade', *self.spot_near())),
            (4, lambda: self.call('atOnce', choice([0, 0, 0, 1, 2, 3, -1]))),
            (4, lambda: self.call('fewest', number(0, 9), n30,
                                  choice([1, n30, n30 // 2, number(0, n30 + 1)]))),
            (2, lambda: self.call('home', choice([0, 1, 0, 1, 2]), way,
                                  choice([10, 10, 0, way - 1, way, number(0, 5), -1]))),
            (3, lambda: self.call('first', self.some_n(60), choice([0, 1, 0, 1, 2]))),
            (4, lambda: self.call('dark', self.some_n(60), choice([0, 1, 2, 3]))),
            (3, lambda: self.call('hung', choice([0, 1, 0, 1, 2, -1]))),
            (5, self.give_prints),
            (3, self.give_cloudy),
            (3, self.give_together),
            (3, lambda: self.call('servedBy', self.some_n(60), choice([0, 1, 2, 3]))),
            (.5, lambda: self.call('seed', choice([-1, 0, 65535, 65536, number(0, 65535)]))),
            (1.5, lambda: self.call('keep')),
            (1.5, lambda: self.call('undo')),
            (1.5, self.give_check),
            (.5, lambda: self.call('feed', *(number(-2**31, 2**31 - 1) for _ in range(5)))),
            (.5, lambda: self.call('count', choice([-1, 9, 12, 22, 34, 99, 200]))),
        ]
        self.rng.choices([ask for _, ask in asks], [often for often, _ in asks])[0]()
        for _ in range(choice([0, 0, 1, 2])):
            self.call('count', choice([0, 1, 2, 3, 4, 5, 6, 7, 8, 10, 11, 20, 21, 30, 31, 32, 33,
                                       100 + self.rng.randrange(100)]))


def main():
    rng = random.Random(int(sys.argv[1]))
    for _ in range(int(sys.argv[2])):
        run = Run(rng)
        run.begin()
        end = rng.randint(80, 240)
        while len(run.lines) < end:
            run.ask()
        print('new')
        print('\n'.join(run.lines))


main()
