import math, struct
from fractions import Fraction
import model as M
from model import *
def install(h):
    P={}
    def d(sig):
        def deco(fn):
            return fn
        return deco
    def reg(name,sig,fn):
        h.table.b[h.sym(name)]=[Place(Prim(name,sig,fn)),False]
    def rng(name,x): raise Cond('range',[h.sym(name),x])
    def typ(name,x): raise Cond('type',[h.sym(name),x])
    def lim(name): raise Cond('limit',[h.sym(name)])
    def zero(name): raise Cond('zero',[h.sym(name)])
    def chk(name,q):
        q=norm(q)
        if over(q): lim(name)
        return q
    N=h.num
    def flo(v): return N(Flo(v))
    reg('eqv?','xx',lambda a:eqv(*a)); reg('eq?','xx',lambda a:eqv(*a))
    def equal(a):
        cnt=[0]
        st=[(a[0],a[1])]
        def tick(n):
            cnt[0]+=n
            if cnt[0]>10000: lim('equal?')
        while st:
            x,y=st.pop(); tick(1)
            if x is True or x is False or y is True or y is False:
                if x is y: continue
                return False
            if eqv(x,y): continue
            if isinstance(x,Pair) and isinstance(y,Pair):
                st.append((x.cdr,y.cdr)); st.append((x.car,y.car))
            elif isinstance(x,Vec) and isinstance(y,Vec):
                if len(x.e)!=len(y.e): return False
                for p in reversed(list(zip(x.e,y.e))): st.append(p)
            elif isinstance(x,Str) and isinstance(y,Str):
                if len(x.c)!=len(y.c): return False
                tick(len(x.c)//64)
                if x.c!=y.c: return False
            elif isinstance(x,Bytes) and isinstance(y,Bytes):
                if len(x.e)!=len(y.e): return False
                tick(len(x.e)//64)
                if x.e!=y.e: return False
            else: return False
        return True
    reg('equal?','xx',equal)
    reg('not','x',lambda a:a[0] is False)
    isb=lambda x:x is True or x is False
    reg('boolean?','x',lambda a:isb(a[0]))
    reg('boolean=?','xx*',lambda a:all(isb(x) for x in a) and all(x is a[0] for x in a))
    for n in('number?','complex?','real?'): reg(n,'x',lambda a:isnum(a[0]))
    fin=lambda x: not isinstance(x,Flo) or math.isfinite(x.v)
    reg('rational?','x',lambda a:isnum(a[0]) and fin(a[0]))
    reg('integer?','x',lambda a:isnum(a[0]) and isint(a[0]))
    reg('exact-integer?','x',lambda a:type(a[0]) is int)
    reg('exact?','n',lambda a:not isinstance(a[0],Flo)); reg('inexact?','n',lambda a:isinstance(a[0],Flo))
    reg('finite?','n',lambda a:fin(a[0])); reg('infinite?','n',lambda a:isinstance(a[0],Flo) and math.isinf(a[0].v))
    reg('nan?','n',lambda a:isinstance(a[0],Flo) and math.isnan(a[0].v))
    def cmpr(ok): return lambda a: all(cmp(x,y) in ok for x,y in zip(a,a[1:]))
    reg('=','nn*',cmpr((0,))); reg('<','nn*',cmpr((-1,))); reg('>','nn*',cmpr((1,))); reg('<=','nn*',cmpr((-1,0))); reg('>=','nn*',cmpr((1,0)))
    reg('zero?','n',lambda a:cmp(a[0],0)==0); reg('positive?','n',lambda a:cmp(a[0],0)==1); reg('negative?','n',lambda a:cmp(a[0],0)==-1)
    reg('odd?','i',lambda a:exactof(a[0])%2==1); reg('even?','i',lambda a:exactof(a[0])%2==0)
    def best(w):
        def f(a):
            m=a[0]
            for x in a[1:]:
                if cmp(x,m)==w: m=x
            if any(isinstance(x,Flo) for x in a) and not isinstance(m,Flo): m=flo(tofloat(m))
            return m
        return f
    reg('max','nn*',best(1)); reg('min','nn*',best(-1))
    def fdiv(a,b):
        if math.isnan(a) or math.isnan(b): return math.nan
        if b==0:
            if a==0: return math.nan
            return math.copysign(math.inf,a)*math.copysign(1,b)
        return a/b
    def fop(op,a,b):
        try:
            if op=='+': r=a+b
            elif op=='-': r=a-b
            elif op=='*': r=a*b
            else: r=fdiv(a,b)
        except OverflowError: raise
        return r
    def chain(op,name=None):
        name=name or op
        def f(a):
            if any(isinstance(x,Flo) for x in a):
                r=tofloat(a[0])
                for x in a[1:]: r=fop(op,r,tofloat(x))
                return flo(r)
            r=Fraction(a[0])
            for x in a[1:]:
                x=Fraction(x)
                if op=='+': r=r+x
                elif op=='-': r=r-x
                elif op=='*': r=r*x
                else:
                    if x==0: zero(name)
                    r=r/x
                if over(r): lim(name)
            return N(norm(r))
        return f
    def plus(a):
        if not a: return 0
        if len(a)==1: return a[0]
        return chain('+')(a)
    def times(a):
        if not a: return 1
        if len(a)==1: return a[0]
        return chain('*')(a)
    def neg(x):
        if isinstance(x,Flo): return flo(-x.v if not math.isnan(x.v) else x.v)
        return N(norm(Fraction(-x)))
    def minus(a):
        if len(a)==1: return neg(a[0])
        return chain('-')(a)
    def div(a):
        if len(a)==1: return chain('/')([1,a[0]])
        return chain('/')(a)
    reg('+','n*',plus); reg('*','n*',times); reg('-','nn*',minus); reg('/','nn*',div)
    reg('abs','n',lambda a:neg(a[0]) if cmp(a[0],0)==-1 else a[0])
    reg('square','n',lambda a:chain('*','square')([a[0],a[0]]))
    def tq(a,b):
        q=abs(a)//abs(b)
        return q if (a<0)==(b<0) else -q
    def idiv(name,fn,two=False):
        def f(a):
            x=exactof(a[0]); y=exactof(a[1])
            if y==0: zero(name)
            fl=any(isinstance(v,Flo) for v in a)
            r=fn(x,y)
            rs=r if two else (r,)
            if two: h.spend(3)
            out=[flo(tofloat(v)+0.0) if fl else N(v) for v in rs]
            return Values(out) if two else out[0]
        reg(name,'ii',f)
    for n in('quotient','truncate-quotient'): idiv(n,tq)
    for n in('remainder','truncate-remainder'): idiv(n,lambda x,y:x-y*tq(x,y))
    for n in('modulo','floor-remainder'): idiv(n,lambda x,y:x-y*(x//y))
    idiv('floor-quotient',lambda x,y:x//y)
    idiv('floor/',lambda x,y:(x//y,x-y*(x//y)),True)
    idiv('truncate/',lambda x,y:(tq(x,y),x-y*tq(x,y)),True)
    def gcdlcm(name):
        def f(a):
            fl=any(isinstance(v,Flo) for v in a)
            r=0 if name=='gcd' else 1
            for x in a:
                x=abs(exactof(x))
                if name=='gcd': r=math.gcd(r,x)
                else: r=0 if r==0 or x==0 else r//math.gcd(r,x)*x
                if over(r): lim(name)
            return flo(tofloat(r)) if fl else N(r)
        reg(name,'i*',f)
    gcdlcm('gcd'); gcdlcm('lcm')
    def nd(name,pick):
        def f(a):
            x=a[0]
            if isinstance(x,Flo):
                if not math.isfinite(x.v): rng(name,x)
                return flo(tofloat(pick(Fraction(x.v)))+0.0)
            if type(x) is int: return x if name=='numerator' else 1
            return pick(x)
        reg(name,'n',f)
    nd('numerator',lambda q:q.numerator); nd('denominator',lambda q:q.denominator)
    def rnd(name,fn):
        def f(a):
            x=a[0]
            if isinstance(x,Flo):
                v=x.v
                if not math.isfinite(v) or v==int(v): return flo(v)
                return flo(math.copysign(tofloat(fn(Fraction(v))),v))
            if type(x) is int: return x
            return N(fn(x))
        reg(name,'n',f)
    rnd('floor',math.floor); rnd('ceiling',math.ceil); rnd('truncate',lambda q:math.trunc(q)); rnd('round',lambda q:round(q))
    def isq(n):
        r=math.isqrt(n); return r*r==n
    def sqrt(a):
        x=a[0]
        if isinstance(x,Flo):
            if x.v<0: rng('sqrt',x)
            return flo(math.sqrt(x.v))
        if x<0: rng('sqrt',x)
        q=Fraction(x)
        if isq(q.numerator) and isq(q.denominator): return N(norm(Fraction(math.isqrt(q.numerator),math.isqrt(q.denominator))))
        return flo(math.sqrt(tofloat(x)))
    reg('sqrt','n',sqrt)
    def exact(a):
        x=a[0]
        if not isinstance(x,Flo): return x
        if not math.isfinite(x.v): rng('exact',x)
        return N(norm(Fraction(x.v)))
    reg('exact','n',exact)
    reg('inexact','n',lambda a:a[0] if isinstance(a[0],Flo) else flo(tofloat(a[0])))
    def eis(a):
        h.spend(3); r=math.isqrt(a[0]); return Values([N(r),N(a[0]-r*r)])
    reg('exact-integer-sqrt','k',eis)
    def expt(a):
        b,e0=a; e=exactof(e0)
        if isinstance(b,Flo):
            r=1.0
            for c in bin(abs(e))[2:] if e else '':
                r=r*r
                if c=='1': r=r*b.v
            return flo(fdiv(1.0,r) if e<0 else r)
        if b==0 and e<0: zero('expt')
        if b in(0,1,-1):
            r=1 if e==0 else (b if e%2 else b*b)
        else:
            if abs(e)>5000: lim('expt')
            r=Fraction(b)**e
            if over(norm(r)): lim('expt')
        r=norm(Fraction(r))
        return flo(tofloat(r)) if isinstance(e0,Flo) else N(r)
    reg('expt','ni',expt)
    def n2s(a):
        r=a[1] if len(a)>1 else 10
        if r not in(2,8,10,16): rng('number->string',a[1])
        if isinstance(a[0],Flo) and r!=10: rng('number->string',a[1])
        return h.mkstr([ord(c) for c in numtext(a[0],r)])
    reg('number->string','n[k',n2s)
    def s2n(a):
        r=a[1] if len(a)>1 else 10
        if r not in(2,8,10,16): rng('string->number',a[1])
        x=parse_number(''.join(map(chr,a[0].c)),r)
        if x is None: return False
        if x is TOOBIG: lim('string->number')
        return N(x)
    reg('string->number','s[k',s2n)
    # lists
    reg('pair?','x',lambda a:isinstance(a[0],Pair)); reg('null?','x',lambda a:a[0] is NIL); reg('list?','x',lambda a:islist(a[0]))
    reg('cons','xx',lambda a:h.cons(*a))
    import itertools
    for n in range(1,5):
        for c in itertools.product('ad',repeat=n):
            def mk(c,name):
                def f(a):
                    x=a[0]
                    for l in reversed(c):
                        if not isinstance(x,Pair): typ(name,a[0])
                        x=x.car if l=='a' else x.cdr
                    return x
                return f
            name='c'+''.join(c)+'r'
            reg(name,'p',mk(c,name))
    def setcar(a): a[0].car=a[1]; return UNSPEC
    def setcdr(a): a[0].cdr=a[1]; return UNSPEC
    reg('set-car!','px',setcar); reg('set-cdr!','px',setcdr)
    def size(name,k):
        if k>10000: rng(name,k)
        return k
    reg('make-list','k[x',lambda a:h.mklist([a[1] if len(a)>1 else UNSPEC]*size('make-list',a[0])))
    reg('list','x*',lambda a:h.mklist(a))
    reg('length','l',lambda a:len(tolist(a[0])))
    def append(a):
        for x in a[:-1]:
            if not islist(x): typ('append',x)
        t=a[-1] if a else NIL
        for x in reversed(a[:-1]): t=h.mklist(tolist(x),t)
        return t
    reg('append','xx*',append)
    reg('reverse','l',lambda a:h.mklist(list(reversed(tolist(a[0])))))
    def far(name):
        def f(a):
            x=a[0]
            if a[1]>300000: rng(name,a[1])
            for _ in range(a[1]):
                if not isinstance(x,Pair): rng(name,a[1])
                x=x.cdr
            if name=='list-tail': return x
            if not isinstance(x,Pair): rng(name,a[1])
            if name=='list-ref': return x.car
            x.car=a[2]; return UNSPEC
        return f
    reg('list-tail','xk',far('list-tail')); reg('list-ref','xk',far('list-ref')); reg('list-set!','xkx',far('list-set!'))
    def mem(a):
        x=a[1]
        while isinstance(x,Pair):
            if same(x.car,a[0]): return x
            x=x.cdr
        return False
    def same(p,q):
        if p is True or p is False or q is True or q is False: return p is q
        return eqv(p,q)
    reg('memq','xl',mem); reg('memv','xl',mem)
    def ass(name):
        def f(a):
            for x in tolist(a[1]):
                if not isinstance(x,Pair): typ(name,a[1])
                if same(x.car,a[0]): return x
            return False
        return f
    reg('assq','xl',ass('assq')); reg('assv','xl',ass('assv'))
    def lcopy(a):
        if pairs_of(a[0])<0: typ('list-copy',a[0])
        l=[]; x=a[0]
        while isinstance(x,Pair): l.append(x.car); x=x.cdr
        return h.mklist(l,x)
    reg('list-copy','x',lcopy)
    reg('%all-pairs?','l',lambda a:all(isinstance(x,Pair) for x in tolist(a[0])))
    def cars(name,g):
        def f(a):
            l=tolist(a[0])
            if not all(isinstance(x,Pair) for x in l): typ(name,a[0])
            return h.mklist([g(x) for x in l])
        return f
    reg('%cars','l',cars('%cars',lambda p:p.car)); reg('%cdrs','l',cars('%cdrs',lambda p:p.cdr))
    # symbols, chars
    reg('symbol?','x',lambda a:isinstance(a[0],Sym)); reg('symbol=?','yy*',lambda a:all(x is a[0] for x in a))
    reg('symbol->string','y',lambda a:h.mkstr([ord(c) for c in a[0].name]))
    def s2y(a):
        if len(a[0].c)>40: rng('string->symbol',a[0])
        n=''.join(map(chr,a[0].c))
        if n not in h.syms: h.syms[n]=Sym(n); h.spend(1+len(n))
        return h.syms[n]
    reg('string->symbol','s',s2y)
    reg('char?','x',lambda a:isinstance(a[0],Char))
    import operator as op
    for n,o in(('=',op.eq),('<',op.lt),('>',op.gt),('<=',op.le),('>=',op.ge)):
        reg('char%s?'%n,'cc*',lambda a,o=o:all(o(x.c,y.c) for x,y in zip(a,a[1:])))
        reg('string%s?'%n,'ss*',lambda a,o=o:all(o(x.c,y.c) for x,y in zip(a,a[1:])))
    low=lambda c:c+32 if 65<=c<=90 else c
    upp=lambda c:c-32 if 97<=c<=122 else c
    reg('string-ci=?','ss*',lambda a:all([low(c) for c in x.c]==[low(c) for c in y.c] for x,y in zip(a,a[1:])))
    reg('char-alphabetic?','c',lambda a:chr(a[0].c).isalpha()); reg('char-numeric?','c',lambda a:chr(a[0].c).isdigit())
    reg('char-whitespace?','c',lambda a:a[0].c in(9,10,11,12,13,32))
    reg('char-upper-case?','c',lambda a:chr(a[0].c).isupper()); reg('char-lower-case?','c',lambda a:chr(a[0].c).islower())
    reg('digit-value','c',lambda a:a[0].c-48 if 48<=a[0].c<=57 else False)
    reg('char->integer','c',lambda a:a[0].c)
    reg('integer->char','k',lambda a:CH[a[0]] if a[0]<128 else rng('integer->char',a[0]))
    reg('char-upcase','c',lambda a:CH[upp(a[0].c)]); reg('char-downcase','c',lambda a:CH[low(a[0].c)])
    # strings etc
    reg('string?','x',lambda a:isinstance(a[0],Str)); reg('vector?','x',lambda a:isinstance(a[0],Vec)); reg('bytevector?','x',lambda a:isinstance(a[0],Bytes))
    def mkvec(l): h.spend(1+len(l)); return Vec(l)
    def mkby(l): h.spend(1+len(l)); return Bytes(l)
    def byte(name,k):
        if k>255: rng(name,k)
        return k
    reg('make-string','k[c',lambda a:h.mkstr([a[1].c if len(a)>1 else 32]*size('make-string',a[0])))
    reg('make-vector','k[x',lambda a:mkvec([a[1] if len(a)>1 else UNSPEC]*size('make-vector',a[0])))
    def mb(a):
        n=size('make-bytevector',a[0]); return mkby([byte('make-bytevector',a[1]) if len(a)>1 else 0]*n)
    reg('make-bytevector','k[k',mb)
    reg('string','c*',lambda a:h.mkstr([x.c for x in a])); reg('vector','x*',lambda a:mkvec(a))
    reg('bytevector','k*',lambda a:mkby([byte('bytevector',x) for x in a]))
    reg('string-length','s',lambda a:len(a[0].c)); reg('vector-length','v',lambda a:len(a[0].e)); reg('bytevector-length','b',lambda a:len(a[0].e))
    def ref(name,g,w):
        def f(a):
            l=g(a[0])
            if a[1]>=len(l): rng(name,a[1])
            return w(l[a[1]])
        return f
    S=lambda x:x.c
    E=lambda x:x.e
    reg('string-ref','sk',ref('string-ref',S,lambda c:CH[c])); reg('vector-ref','vk',ref('vector-ref',E,lambda c:c)); reg('bytevector-u8-ref','bk',ref('bytevector-u8-ref',E,lambda c:c))
    def sset(name,g,w):
        def f(a):
            l=g(a[0])
            if a[1]>=len(l): rng(name,a[1])
            l[a[1]]=w(a[2]); return UNSPEC
        return f
    reg('string-set!','skc',sset('string-set!',S,lambda c:c.c)); reg('vector-set!','vkx',sset('vector-set!',E,lambda c:c))
    reg('bytevector-u8-set!','bkk',sset('bytevector-u8-set!',E,lambda c:byte('bytevector-u8-set!',c)))
    def span(name,a,i,n):
        s=a[i] if len(a)>i else 0
        if s>n: rng(name,s)
        e=a[i+1] if len(a)>i+1 else n
        if e<s or e>n: rng(name,e)
        return s,e
    def cut(name,g,w,sig):
        def f(a):
            l=g(a[0]); s,e=span(name,a,1,len(l)); return w(l[s:e],a[0])
        reg(name,sig,f)
    cut('substring',S,lambda l,x:h.mkstr(l),'skk'); cut('string-copy',S,lambda l,x:h.mkstr(l),'s[kk')
    cut('string->list',S,lambda l,x:h.mklist([CH[c] for c in l]),'s[kk'); cut('string->vector',S,lambda l,x:mkvec([CH[c] for c in l]),'s[kk')
    cut('string->utf8',S,lambda l,x:mkby(l),'s[kk')
    cut('vector->list',E,lambda l,x:h.mklist(l),'v[kk'); cut('vector-copy',E,lambda l,x:mkvec(l),'v[kk'); cut('bytevector-copy',E,lambda l,x:mkby(l),'b[kk')
    def v2s(l,x):
        if not all(isinstance(c,Char) for c in l): typ('vector->string',x)
        return h.mkstr([c.c for c in l])
    cut('vector->string',E,v2s,'v[kk')
    def b2s(l,x):
        if any(c>127 for c in l): rng('utf8->string',x)
        return h.mkstr(l)
    cut('utf8->string',E,b2s,'b[kk')
    def l2s(a):
        l=tolist(a[0])
        if not all(isinstance(c,Char) for c in l): typ('list->string',a[0])
        return h.mkstr([c.c for c in l])
    reg('list->string','l',l2s); reg('list->vector','l',lambda a:mkvec(tolist(a[0])))
    reg('string-append','s*',lambda a:h.mkstr([c for x in a for c in x.c])); reg('vector-append','v*',lambda a:mkvec([c for x in a for c in x.e])); reg('bytevector-append','b*',lambda a:mkby([c for x in a for c in x.e]))
    def cpy(name,g,sig):
        def f(a):
            t=g(a[0]); at=a[1]; l=g(a[2])
            if at>len(t): rng(name,at)
            s,e=span(name,a,3,len(l))
            if e-s>len(t)-at: rng(name,at)
            t[at:at+e-s]=l[s:e]; return UNSPEC
        reg(name,sig,f)
    cpy('string-copy!',S,'sks[kk'); cpy('vector-copy!',E,'vkv[kk'); cpy('bytevector-copy!',E,'bkb[kk')
    def fill(name,g,w,sig):
        def f(a):
            l=g(a[0]); s,e=span(name,a,2,len(l))
            for i in range(s,e): l[i]=w(a[1])
            return UNSPEC
        reg(name,sig,f)
    fill('string-fill!',S,lambda c:c.c,'sc[kk'); fill('vector-fill!',E,lambda c:c,'vx[kk')
    reg('string-upcase','s',lambda a:h.mkstr([upp(c) for c in a[0].c])); reg('string-downcase','s',lambda a:h.mkstr([low(c) for c in a[0].c]))
    # control
    reg('procedure?','x',lambda a:isinstance(a[0],Proc))
    def ap(a):
        if not islist(a[-1]): typ('apply',a[-1])
        return Ctl('apply',(a[0],list(a[1:-1])+tolist(a[-1])))
    reg('apply','fxx*',ap)
    def values(a):
        if len(a)==1: return a[0]
        h.spend(1+len(a)); return Values(list(a))
    reg('values','x*',values)
    reg('call-with-values','ff',lambda a:Ctl('cwv')); reg('%with','llf',lambda a:Ctl('with')); reg('%call/cc','f',lambda a:Ctl('cc')); reg('%stop','x',lambda a:Ctl('stop'))
    reg('error-object?','x',lambda a:isinstance(a[0],Err)); reg('error-object-message','e',lambda a:a[0].msg); reg('error-object-irritants','e',lambda a:a[0].irr)
    reg('eof-object','',lambda a:EOF); reg('eof-object?','x',lambda a:a[0] is EOF)
    def disp(a): h.write(a[0],True,h.emit); return UNSPEC
    def wr(a): h.write(a[0],False,h.emit); return UNSPEC
    reg('display','x',disp); reg('write','x',wr)
    def out(t): h.emit(t); return UNSPEC
    reg('newline','',lambda a:out('\n')); reg('write-char','c',lambda a:out(chr(a[0].c)))
    def ws(a):
        s,e=span('write-string',a,1,len(a[0].c)); return out(''.join(map(chr,a[0].c[s:e])))
    reg('write-string','s[kk',ws)
    def inp(i): 
        c=h.input[i]; return 63 if c>127 else c
    def rc(a):
        if h.inpos>=len(h.input): return EOF
        h.inpos+=1; return CH[inp(h.inpos-1)]
    def pc(a):
        if h.inpos>=len(h.input): return EOF
        return CH[inp(h.inpos)]
    reg('read-char','',rc); reg('peek-char','',pc)
    def rl(a):
        if h.inpos>=len(h.input): return EOF
        l=[]
        while h.inpos<len(h.input):
            c=inp(h.inpos); h.inpos+=1
            if c==10: break
            if c==13:
                if h.inpos<len(h.input) and inp(h.inpos)==10: h.inpos+=1
                break
            l.append(c)
        return h.mkstr(l)
    reg('read-line','',rl)
    def rs(a):
        k=size('read-string',a[0])
        if k>0 and h.inpos>=len(h.input): return EOF
        l=[inp(i) for i in range(h.inpos,min(len(h.input),h.inpos+k))]
        h.inpos+=len(l)
        return h.mkstr(l)
    reg('read-string','k',rs)
    def rd(a):
        r=Reader(h,h.input,h.inpos,True)
        try: v=r.one()
        except Wrong:
            r.undo(); h.inpos=len(h.input); raise Cond('read',[])
        h.inpos=r.p
        h.spend(r.tally)
        return v
    reg('read','',rd)
    # own
    def case(a):
        h.spend(1); return Case([f for f in a if isinstance(f,Lam)])
    reg('%case-lambda','f*',case)
    def me(a): h.spend(1); return Err(a[0],a[1])
    reg('%make-error','xl',me)
    def mp(a): h.spend(1); return Param(a[0],a[1])
    reg('%make-parameter','xf',mp); reg('%converter','m',lambda a:a[0].f)
    reg('%handlers','',lambda a:h.handlers); reg('%parameters','',lambda a:h.params)
    def ty(a):
        l=tolist(a[1]); h.spend(1+len(l)); return RType(l)
    reg('%type','yl',ty)
    def find(t,y):
        for i,n in enumerate(t.names):
            if n is True or n is False or y is True or y is False:
                if n is y: return i
                continue
            if eqv(n,y): return i
        return -1
    def cons(a):
        l=tolist(a[1]); idx=[find(a[0],y) for y in l]
        if -1 in idx: rng('%constructor',a[1])
        h.spend(1+len(l)); return Maker(a[0],idx)
    reg('%constructor','tl',cons)
    def pred(a): h.spend(1); return Asker(a[0])
    reg('%predicate','t',pred)
    def acc(name,C):
        def f(a):
            i=find(a[0],a[1])
            if i<0: rng(name,a[1])
            h.spend(1); return C(a[0],i)
        reg(name,'ty',f)
    acc('%accessor',Getter); acc('%modifier',Setter)
