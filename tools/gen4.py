# macros and libraries
import random,sys
seed=int(sys.argv[1]); n=int(sys.argv[2]); out=sys.argv[3]
R=random.Random(seed)
VARS=list('abcdefgh')
ATOMS=['1','2','"s"','"%s"'%('y'*70),'#\\x','#t','()','else','=>','foo','x','y','lit','_','...','1.5','#u8(1)','quote','car','if','2/3']
def pat(d,free,ellok=True,ell='...'):
    r=R.random()
    if d<=0 or r<.45:
        if free and R.random()<.75: return free.pop()
        return R.choice(['lit','_','"s"','1','()','foo','#t','"%s"'%('y'*70)] if R.random()<.9 else ATOMS)
    k=R.randrange(0,4)
    L=[]
    used=False
    for i in range(k):
        L.append(pat(d-1,free,ell=ell))
        if (not used or R.random()<.03) and R.random()<.45:
            L.append(ell); used=True
    if r<.9:
        if L and R.random()<.2: return '('+' '.join(L)+' . '+pat(0,free,ell=ell)+')'
        return '('+' '.join(L)+')'
    return '#('+' '.join(L)+')'
def parse(s):
    import re
    t=re.findall(r'"[^"]*"|#\\.|#u8\(|#\(|[()\']|[^\s()\']+',s)
    pos=[0]
    def go():
        x=t[pos[0]]; pos[0]+=1
        if x in('(','#(','#u8('):
            l=[x]
            while t[pos[0]]!=')': l.append(go())
            pos[0]+=1
            return l
        if x=="'": return ['(','quote',go()]
        return x
    return go()
def depths(p,d,out,ell='...'):
    if isinstance(p,list):
        for i,x in enumerate(p[1:],1):
            if x in (ell,'.'): continue
            nd=d+1 if i+1<len(p) and p[i+1]==ell else d
            depths(x,nd,out,ell)
    elif p in VARS: out[p]=d
def tem(d,vs,under,ell='...'):
    r=R.random()
    if d<=0 or r<.4:
        if vs and R.random()<.75:
            c=[v for v in vs if vs[v]<=under]
            if c and R.random()<.95: return R.choice(c)
            return R.choice(list(vs))
        return R.choice(['lit','foo','x','1','"s"','()','t1','t2','#\\a'])
    L=[]
    for i in range(R.randrange(0,4)):
        k=0
        if R.random()<.4: k=R.choice([1,1,1,2])
        L.append(tem(d-1,vs,under+k,ell)+(' '+ell)*k)
    if r<.88:
        if L and R.random()<.15: return '('+' '.join(L)+' . '+tem(0,vs,under,ell)+')'
        return '('+' '.join(L)+')'
    if r<.94: return '#('+' '.join(L)+')'
    return '(... '+tem(d-1,vs,under,'...')+')'
def inst(p,ell='...'):
    # a thing that would match
    if isinstance(p,list):
        if p[0]=='#u8(': return '#u8('+' '.join(p[1:])+')'
        L=[];i=1
        tail=None
        while i<len(p):
            x=p[i]
            if x=='.': tail=inst(p[i+1],ell); break
            if i+1<len(p) and p[i+1]==ell:
                for _ in range(R.choice([0,1,2,2,3])): L.append(inst(x,ell))
                i+=2; continue
            L.append(inst(x,ell)); i+=1
        if R.random()<.04: L.append('9')
        if R.random()<.04 and L: L.pop()
        s=' '.join(L)
        if tail is not None: s=s+(' . '+tail if L else ''); 
        if tail is not None and not L: return tail
        return ('(' if p[0]=='(' else '#(')+s+')'
    if p in VARS or p=='_':
        return R.choice(['1','2','x','y','(1 2)','"q"','foo','lit','(p . q)','#(1 2)','()'])
    return p if R.random()<.95 else '99'
def macro(name):
    ell='...'; own=''
    if R.random()<.15: ell=R.choice([':::','dots']); own=ell+' '
    lits=R.choice(['','lit','lit foo','foo','lit _','...'] if R.random()<.5 else ['lit'])
    rules=[];uses=[]
    for _ in range(R.choice([1,1,2,3])):
        free=VARS[:]; R.shuffle(free); free=free[:R.randrange(1,6)]
        if R.random()<.03: free.append(free[0])
        k=R.randrange(0,4)
        L=[];used=False
        for i in range(k):
            L.append(pat(2,free,ell=ell))
            if not used and R.random()<.5: L.append(ell); used=True
        p='(_ '+' '.join(L)+(' . '+pat(0,free) if R.random()<.1 and L else '')+')'
        P=parse(p); vs={}; depths(P,0,vs,ell)
        t=tem(3,vs,0,ell)
        rules.append('(%s (quote %s))'%(p,t) if R.random()<.85 else '(%s %s)'%(p,t))
        uses.append(P)
    return '(define-syntax %s (syntax-rules %s(%s) %s))'%(name,own,lits,' '.join(rules)),uses,ell
def use(name,P,ell):
    u=inst(P,ell)
    return '('+name+u[u.index('(')+1:].lstrip()[0:0]+' '+inst(['(']+P[2:],ell)[1:]
def lib(i):
    nm=R.choice(['(a)','(b c)','(b 1)','(scheme x)','(l %d)'%R.randrange(16),'(l %d)'%R.randrange(16)])
    ex=[]
    for v in R.sample(['p','q','r','s','m'],R.randrange(0,4)):
        ex.append(v if R.random()<.7 else '(rename %s %s)'%(v,R.choice(['p2','q2','zz','r'])))
    body=[]
    for v in ['p','q','r']:
        if R.random()<.7: body.append(R.choice(['(define %s %d)'%(v,R.randrange(9)),'(define (%s) (set! cnt (+ cnt 1)) cnt)'%v,'(define %s (lambda x x))'%v]))
    if R.random()<.4: body.append('(define-syntax m (syntax-rules () ((_ x) (list x p helper))))')
    if R.random()<.5: body.insert(0,'(define cnt 0)')
    if R.random()<.1: body.append(R.choice(['(import (a))','(define-library (z))','(display "L")','(car 5)','(begin (define s 1) (define t 2))']))
    imp=R.choice(['(import (scheme base))','(import (scheme base))','(import (only (scheme base) define lambda set! + quote begin define-syntax syntax-rules))',"(import (prefix (only (scheme base) define) k-))",'(import (except (scheme base) car))',''])
    imp2='' if R.random()<.8 else '(import %s)'%iset()
    decl=['(export %s)'%' '.join(ex),imp,imp2,'(begin %s)'%' '.join(body)]
    R.shuffle(decl)
    return '(define-library %s %s)'%(nm,' '.join(decl))
def iset(d=0):
    r=R.random()
    if d>2 or r<.4: return R.choice(['(a)','(b c)','(b 1)','(scheme base)','(l 3)','(l %d)'%R.randrange(16),'(nope)','(scheme x)','(a)','(b c)'])
    s=iset(d+1)
    ids=lambda:' '.join(R.choice(['p','q','r','m','p2','car','x:p','s']) for _ in range(R.randrange(0,3)))
    if r<.55: return '(only %s %s)'%(s,ids())
    if r<.7: return '(except %s %s)'%(s,ids())
    if r<.88: return '(prefix %s %s)'%(s,R.choice(['x:','y','veryveryverylongprefixthatisfortysigns','5']))
    return '(rename %s %s)'%(s,' '.join('(%s %s)'%(R.choice(['p','q','r','x:p']),R.choice(['p','q','pp','qq'])) for _ in range(R.randrange(0,3))))
with open(out,'w') as f:
    f.write('NEW\n')
    i=0
    while i<n:
        if i%60==0: f.write('NEW\n')
        i+=1
        if R.random()<.6:
            m,us,ell=macro('mm')
            t=m
            b=t.encode('latin1')
            f.write('E '+b.hex()+'\n')
            for P in us:
                for _ in range(3):
                    try: u=use('mm',P,ell)
                    except Exception: continue
                    u=R.choice(['%s','(let ((lit 1) (x 2)) %s)','(begin %s)','(lambda (x) %s)','(let () %s)'])%u
                    f.write('E '+u.encode('latin1')[:5900].hex()+'\n')
        else:
            for _ in range(R.randrange(1,4)): f.write('E '+lib(i).encode().hex()+'\n')
            for _ in range(3):
                f.write('E '+('(import %s)'%' '.join(iset() for _ in range(R.choice([1,1,1,2])))).encode().hex()+'\n')
                f.write('E '+R.choice(['p','(q)','(list p q)','(m 5)','(x:p)','(begin (define p 7) p)','r','(set! q 5)','pp','yp','(r 1 2)','(x:q)','car','(if #t 1 2)']).encode().hex()+'\n')
