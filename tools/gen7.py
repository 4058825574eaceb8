# PATTERNS and TEMPLATES of VECTORS with many plain elements
import random, sys
seed = int(sys.argv[1]); n = int(sys.argv[2]); out = sys.argv[3]
R = random.Random(seed)
PLAIN = ['1', '2', '1.5', '12345678901', '"s"', '"%s"' % ('y' * 130), '#u8(1 2)', '#\\a', '#t', '()', '1/2', '"t"']
def element(d, free):
    r = R.random()
    if r < .62: return R.choice(PLAIN)
    if r < .74 and free: return free.pop()
    if r < .8: return R.choice(['_', 'lit', 'foo'])
    if d > 0: return row(d - 1, free)
    return '2'
def row(d, free, vector=None):
    used = False; l = []
    for _ in range(R.choice([0, 1, 2, 4, 6, 9])):
        l.append(element(d, free))
        if not used and R.random() < .12: l.append('...'); used = True
    if vector is None: vector = R.random() < .8
    return ('#(' if vector else '(') + ' '.join(l) + ')'
def tokens(s):
    import re
    return re.findall(r'"[^"]*"|#\\.|#u8\([^)]*\)|#\(|[()]|\.\.\.|[^\s()"]+', s)
def tree(t, i=0):
    l = [t[i]]; i += 1
    while t[i] != ')':
        if t[i] in ('(', '#('): x, i = tree(t, i)
        else: x = t[i]; i += 1
        l.append(x)
    return l, i + 1
def use(p):
    if isinstance(p, list):
        l = []; i = 1
        while i < len(p):
            if i + 1 < len(p) and p[i + 1] == '...':
                l += [use(p[i]) for _ in range(R.choice([0, 1, 2, 3]))]; i += 2
            else: l.append(use(p[i])); i += 1
        r = R.random()
        if r < .04 and l: l.pop()
        elif r < .08: l.append('1')
        return ('(' if p[0] == '(' else '#(') + ' '.join(l) + ')'
    if len(p) == 1 and p in 'abcdefgh' or p == '_': return R.choice(PLAIN + ['x', '#(1 2)', '(1)'])
    return p if R.random() < .97 else R.choice(PLAIN)
def depths(p, d, m):
    for i, x in enumerate(p[1:], 1):
        if x == '...': continue
        k = d + (i + 1 < len(p) and p[i + 1] == '...')
        if isinstance(x, list): depths(x, k, m)
        elif len(x) == 1 and x in 'abcdefgh': m[x] = k
def template(d, m, under):
    l = []
    for _ in range(R.choice([0, 1, 2, 4, 7])):
        r = R.random()
        if r < .5: l.append(R.choice(PLAIN)); continue
        k = R.choice([0, 0, 0, 1, 1, 2])
        c = [v for v in m if m[v] <= under + k]
        if r < .75 and m: x = R.choice(c if c and R.random() < .95 else list(m))
        elif d > 0: x = template(d - 1, m, under + k)
        else: x = 'z'
        l.append(x + ' ...' * k)
    return R.choice(['#(', '#(', '(']) + ' '.join(l) + ')'
with open(out, 'w') as f:
    for i in range(n):
        if i % 60 == 0: f.write('NEW\n')
        free = list('abcdefgh'); R.shuffle(free); free = free[:R.randrange(1, 7)]
        rules = ''; trees = []
        for _ in range(R.choice([1, 1, 2])):
            p = row(3, free[:], False)
            p = '(_ ' + p[1:]
            t, _ = tree(tokens(p)); m = {}; depths(t, 0, m); trees.append(t)
            rules += " (%s '%s)" % (p, template(3, m, 0))
        f.write('E ' + ('(define-syntax mm (syntax-rules (lit)%s))' % rules).encode().hex() + '\n')
        for t in trees:
            for _ in range(3):
                u = use(['('] + t[2:])
                f.write('E ' + ('(mm ' + u[1:]).encode().hex() + '\n')
