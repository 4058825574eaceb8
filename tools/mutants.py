# writes the changes that Mutants.java makes to the program, one a line: line, from, to, what stands there then
import re, sys, random
SOURCE = sys.argv[1]
OUT = sys.argv[2]
src = open(SOURCE).read().split('\n')
enum_from = next(i for i, l in enumerate(src) if 'private enum Proc' in l)
enum_to = next(i for i, l in enumerate(src) if 'private static final Proc[] PROCEDURES' in l)
prelude = next(i for i, l in enumerate(src) if 'PRELUDE = """' in l)


def plain(line):
    """the line with texts, signs and comments blanked out"""
    line = re.sub(r'"(?:\\.|[^"\\])*"|\'(?:\\.|[^\'\\])*\'', lambda m: '\0' * len(m.group()), line)
    at = line.find('//')
    return line if at < 0 else line[:at] + '\0' * (len(line) - at)


OTHER = {'<': '<=', '<=': '<', '>': '>=', '>=': '>', '==': '!=', '!=': '==', '&&': '||', '||': '&&',
         'true': 'false', 'false': 'true'}
changes = []
comment = False
for n, line in enumerate(src):
    s = line.strip()
    if s.startswith('/*'):
        comment = True
    if comment:
        comment = '*/' not in s
        continue
    if enum_from <= n < enum_to or n >= prelude:
        continue
    p = plain(line)
    for m in re.finditer(r'(?<= )(<=|>=|==|!=|&&|\|\||<|>)(?= )|\b(?:true|false)\b', p):
        changes.append((n, m.start(), m.end(), OTHER[m.group()]))
    for m in re.finditer(r'(?<![\w.])\d+(?![\w.])', p):
        v = int(m.group())
        if 'static final int' in line and ',' in line and v < 64:
            continue
        changes.append((n, m.start(), m.end(), v + 1))
        if v > 0:
            changes.append((n, m.start(), m.end(), v - 1))
    m = re.search(r'(?:room\.)?spend\([^;]*\);', p)
    if m and 'void spend' not in p:
        changes.append((n, m.start(), m.end(), ';'))
random.Random(1).shuffle(changes)
with open(OUT, 'w') as f:
    for c in changes:
        f.write('\t'.join(map(str, c)) + '\n')
print(len(changes), 'changes')
