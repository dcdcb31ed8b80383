"""Changes the class in one small place at a time, and tells which changes no test sees.

    python3 tools/mutants.py [TEST,TEST..] > /tmp/unseen.txt

Run it from the root of the project; tests that are named are left out. Each line that is printed
is a place of the class, << what stands there -> what was put there >>. Most of those that are left
are changes that nothing can see: guards that never come true, first values that are put again.
"""
import concurrent.futures
import pathlib
import re
import shutil
import subprocess
import sys
import tempfile

SOURCE = pathlib.Path('src/main/java/ShadowCourt.java')
TESTS = pathlib.Path('src/test/java')
SLOW = ['HomeTest', 'WildCallsTest', 'RecordedRunsTest', 'LanguageTest']
SWAPS = [(r'<=', ['<', '==']), (r'(?<![>=!-])>=', ['>', '==']), (r' < ', [' <= ']), (r' > ', [' >= ']),
         (r'==', ['!=']), (r'!=', ['==']), (r'&&', ['||']), (r'\|\|', ['&&']), (r' \+ ', [' - ']),
         (r' - ', [' + ']), (r' \* ', [' / ']), (r' / ', [' * ']), (r' % ', [' / ']), (r'\+\+', ['--']),
         (r'\btrue\b', ['false']), (r'\bfalse\b', ['true']), (r'\bbreak;', ['continue;']),
         (r'\bcontinue;', ['break;']), (r'Math\.max', ['Math.min']), (r'Math\.min', ['Math.max']),
         (r'\+=', ['-=']), (r'<<', ['>>']), (r'\|=', ['=']), (r'&=', ['=']), (r'(?<![\w.])!(?=[\w(])', [''])]
CONSTANT = r'\b(NONE|NOT_POSSIBLE|OUT_OF_BOUNDS|NO_FELON|WALL|RIVER|STAIRS|PLAIN|STAY|MOST_\w+|LAST_MINUTE' \
           r'|SIDE|SPOTS|JUDGES|FELONS|LAMPS)\b(?!\s*=\s)'
STATEMENT = r'^ +((?!return|int |boolean |private|public|final|break|continue|case|default|for|Day |}|this)' \
            r'[\w.\[\]() +\-,*]+(?: = [^;]+|\([^;]*\)|\+\+)?;)$'


def find_changes(text):
    """Rows of where a change begins and ends, and what is put there."""
    dead = set()
    for found in re.finditer(r"/\*.*?\*/|//[^\n]*|'[^']'", text, re.S):
        dead.update(range(found.start(), found.end()))
    changes = []
    for pattern, others in SWAPS:
        for found in re.finditer(pattern, text):
            changes += [(found.start(), found.end(), other) for other in others]
    for found in re.finditer(r'(?<![\w.])\d+(?![\w.])', text):
        changes += [(found.start(), found.end(), str(int(found.group()) + more)) for more in (1, -1)]
    for found in re.finditer(CONSTANT, text):
        changes += [(found.start(), found.end(), f'({found.group()} {more} 1)') for more in '+-']
    for found in re.finditer(STATEMENT, text, re.M):
        changes.append((found.start(1), found.end(1), ';'))
    for found in re.finditer(r'^ +if \(', text, re.M):
        end, depth = found.end(), 1
        while depth:
            depth += {'(': 1, ')': -1}.get(text[end] if end not in dead else ' ', 0)
            end += 1
        changes.append((found.end(), end - 1, f'false && ({text[found.end():end - 1]})'))
    return [change for change in changes if change[0] not in dead]


def compile_tests(base, left_out):
    names = [file.stem for file in sorted(TESTS.glob('*Test.java')) if file.stem not in left_out]
    names.sort(key=lambda name: name in SLOW)
    runner = base / 'AllTests.java'
    runner.write_text('final class AllTests { public static void main(String[] none) throws Exception {'
                      + ''.join(f'{name}.main(none);' for name in names) + '}}')
    files = [str(file) for file in TESTS.glob('*.java')]
    subprocess.run(['javac', '-d', str(base / 'tests'), str(SOURCE), str(runner)] + files, check=True)
    for file in (base / 'tests').glob('ShadowCourt*.class'):
        if file.stem == 'ShadowCourt' or file.stem.startswith('ShadowCourt$'):
            file.unlink()


def is_unseen(base, place, text):
    own = base / str(place)
    own.mkdir()
    (own / 'ShadowCourt.java').write_text(text)
    try:
        compiled = subprocess.run(['javac', '-J-XX:TieredStopAtLevel=1', '-J-XX:+UseSerialGC', '-d', str(own),
                                   str(own / 'ShadowCourt.java')], capture_output=True)
        if compiled.returncode:
            return False
        asked = subprocess.run(['java', '-XX:TieredStopAtLevel=1', '-XX:+UseSerialGC', '-cp',
                                f'{own}:{base / "tests"}', 'AllTests'], capture_output=True, timeout=60)
        return asked.returncode == 0
    except subprocess.TimeoutExpired:
        return False
    finally:
        shutil.rmtree(own)


def main():
    base = pathlib.Path(tempfile.mkdtemp(prefix='mutants'))
    compile_tests(base, sys.argv[1].split(',') if len(sys.argv) > 1 else [])
    text = SOURCE.read_text()
    changes = find_changes(text)
    with concurrent.futures.ThreadPoolExecutor(8) as pool:
        unseen = pool.map(lambda i: is_unseen(base, i, text[:changes[i][0]] + changes[i][2] + text[changes[i][1]:]),
                          range(len(changes)))
        for (start, end, other), still in zip(changes, unseen):
            if still:
                line = text.count('\n', 0, start) + 1
                ahead = text[text.rfind('\n', 0, start) + 1:start]
                behind = text[end:text.find('\n', end)]
                print(f'{line}: {ahead.lstrip()}<<{text[start:end]} -> {other}>>{behind}', flush=True)
    print(f'{len(changes)} changes', file=sys.stderr)
    shutil.rmtree(base)


if __name__ == '__main__':
    main()
