# independent model of DOC.md, written plainly (recursion, Python numbers)
import os, sys, struct, math
from fractions import Fraction
sys.setrecursionlimit(100000)
import threading


class Wrong(Exception):
    def __init__(s,p): s.p=p
class Limit(Exception): pass
class Syntax(Exception):
    def __init__(s,form=None,msg=None,irr=None): s.form=form; s.msg=msg; s.irr=irr
class Cond(Exception):
    def __init__(s,kind,irr): s.kind=kind; s.irr=irr

class Nil: pass
NIL=Nil()
class Unspec: pass
UNSPEC=Unspec()
class Eof: pass
EOF=Eof()
class Unassigned: pass
UNASS=Unassigned()
class Pair:
    __slots__=('car','cdr')
    def __init__(s,a,d): s.car=a; s.cdr=d
class Sym:
    __slots__=('name','b')
    def __init__(s,n): s.name=n
class Alias:
    __slots__=('of','env')
    def __init__(s,o,e): s.of=o; s.env=e
class Str:
    __slots__=('c',)
    def __init__(s,c): s.c=list(c)
class Vec:
    __slots__=('e',)
    def __init__(s,e): s.e=list(e)
class Bytes:
    __slots__=('e',)
    def __init__(s,e): s.e=list(e)
class Char:
    __slots__=('c',)
    def __init__(s,c): s.c=c
CH=[Char(i) for i in range(128)]
class Flo:
    __slots__=('v',)
    def __init__(s,v): s.v=v
class Values:
    __slots__=('l',)
    def __init__(s,l): s.l=l
class Err:
    __slots__=('msg','irr')
    def __init__(s,m,i): s.msg=m; s.irr=i
class RType:
    __slots__=('names',)
    def __init__(s,n): s.names=n
class Rec:
    __slots__=('t','f')
    def __init__(s,t,f): s.t=t; s.f=f
class Proc: pass
class Prim(Proc):
    def __init__(s,name,sig,fn): 
        s.name=name; s.sig=sig; s.fn=fn
        opt=False; s.lo=0; s.hi=0; s.types=[]; s.star=None
        i=0
        for ch in sig:
            if ch=='[': opt=True
            elif ch=='*':
                s.star=s.types[-1]; s.hi=10**9; s.lo-=1
            else:
                s.types.append(ch); s.hi+=1
                if not opt: s.lo+=1
    def typ(s,i):
        if i<len(s.types): return s.types[i]
        return s.star
class Lam(Proc):
    def __init__(s,code,env): s.code=code; s.env=env
class Cont(Proc):
    def __init__(s,k,h,p,serial): s.k=k; s.h=h; s.p=p; s.serial=serial
class Param(Proc):
    def __init__(s,v,f): s.v=v; s.f=f
class Case(Proc):
    def __init__(s,l): s.l=l
class Maker(Proc):
    def __init__(s,t,idx): s.t=t; s.idx=idx
class Asker(Proc):
    def __init__(s,t): s.t=t
class Getter(Proc):
    def __init__(s,t,i): s.t=t; s.i=i
class Setter(Proc):
    def __init__(s,t,i): s.t=t; s.i=i
class Place:
    __slots__=('v','imported')
    def __init__(s,v=UNASS): s.v=v
class Macro:
    def __init__(s,env,lits,rules,ell): s.env=env; s.lits=lits; s.rules=rules; s.ell=ell
class Core:
    def __init__(s,n): s.n=n
class Table:
    def __init__(s): s.b={}   # sym -> [meaning, imported]
class Scope:
    def __init__(s,parent): s.parent=parent; s.b={}   # identifier(object) -> Var or Macro
class Var:
    __slots__=()
# numbers
def isnum(x): return (type(x) is int) or isinstance(x,(Fraction,Flo))
def isint(x): return type(x) is int or (isinstance(x,Flo) and math.isfinite(x.v) and x.v==int(x.v))
def bits(n): return abs(n).bit_length()
def units(x):
    if type(x) is int: return 2+(bits(x)+31)//32 if bits(x)>28 else 0
    if isinstance(x,Fraction): return 2+(bits(x.numerator)+31)//32+(bits(x.denominator)+31)//32
    if isinstance(x,Flo): return 4
    return 0
def norm(q):
    if isinstance(q,Fraction) and q.denominator==1: return q.numerator
    return q
def over(q):
    if type(q) is int: return bits(q)>4000
    return bits(q.numerator)>4000 or bits(q.denominator)>4000
def tofloat(q):
    if isinstance(q,Flo): return q.v
    q=Fraction(q)
    try:
        return q.numerator/q.denominator   # python int true division is correctly rounded
    except OverflowError:
        return math.inf if q>0 else -math.inf
NUMTOKEN_MAX=1200
TOOBIG=object()
def parse_number(t,radix=10):
    if len(t)>1200: return None
    i=0; ex=None; rad=None
    while i+1<len(t) and t[i]=='#' and t[i+1] in 'xobdei':
        c=t[i+1]
        if c in 'ei':
            if ex: return None
            ex=c
        else:
            if rad: return None
            rad={'x':16,'o':8,'b':2,'d':10}[c]
        i+=2
    radix=rad or radix
    s=t[i:]
    neg=False; signed=False
    if s[:1] in ('+','-') and s: signed=True; neg=s[0]=='-'; s=s[1:]
    if signed and s in('inf.0','nan.0'):
        if ex=='e': return None
        return Flo(math.nan if s=='nan.0' else (-math.inf if neg else math.inf))
    digs='0123456789abcdef'[:radix]
    def alld(x): return x!='' and all(c.lower() in digs and (c.isascii()) for c in x)
    q=None
    if alld(s):
        q=int(s,radix)
        if over(q): return TOOBIG
    elif '/' in s:
        a,_,b=s.partition('/')
        if not alld(a) or not alld(b): return None
        a=int(a,radix); b=int(b,radix)
        if b==0: return None
        if over(a) or over(b): return TOOBIG
        q=Fraction(a,b)
    if q is not None:
        if ex=='i':
            v=tofloat(q)
            return Flo(-v if neg else v)
        q=norm(Fraction(q))
        return -q if neg else q
    if radix!=10: return None
    import re
    m=re.fullmatch(r'(\d*)(?:(\.)(\d*))?(?:[eE]([+-]?)(\d{1,3}))?',s,re.ASCII)
    if not m: return None
    a=m.group(1) or ''; b=m.group(3) or ''
    if a+b=='' : return None
    n=int(a+b)
    e=int(m.group(5) or 0)
    if m.group(4)=='-': e=-e
    if ex=='e' and over(n): return TOOBIG
    q=Fraction(n)*Fraction(10)**(e-len(b))
    if ex=='e':
        q=norm(q)
        if over(q): return TOOBIG
        return -q if neg else q
    v=tofloat(q)
    return Flo(-v if neg else v)
def flotext(v):
    if math.isnan(v): return '+nan.0'
    if math.isinf(v): return '+inf.0' if v>0 else '-inf.0'
    if v==0: return '-0.0' if math.copysign(1,v)<0 else '0.0'
    s=repr(abs(v))
    m,_,e=s.partition('e')
    a,_,b=m.partition('.')
    e=int(e or 0)
    dg=a+b; pt=len(a)+e
    z=len(dg)-len(dg.lstrip('0'))
    dg=dg[z:]; pt-=z
    dg=dg.rstrip('0') or '0'
    q=Fraction(abs(v))
    if Fraction(1,10**7)<=q<10**21:
        if pt<=0: r='0.'+'0'*(-pt)+dg
        elif pt>=len(dg): r=dg+'0'*(pt-len(dg))+'.0'
        else: r=dg[:pt]+'.'+dg[pt:]
    else:
        r=dg[0]+('.'+dg[1:] if len(dg)>1 else '')+'e'+str(pt-1)
    return ('-' if v<0 else '')+r
def inttext(n,r):
    if n==0: return '0'
    s=''; m=abs(n)
    while m: s='0123456789abcdef'[m%r]+s; m//=r
    return ('-' if n<0 else '')+s
def numtext(x,r=10):
    if isinstance(x,Flo): return flotext(x.v)
    if type(x) is int: return inttext(x,r)
    return inttext(x.numerator,r)+'/'+inttext(x.denominator,r)
def fbits(v): return struct.pack('>d',v)
def eqv(a,b):
    if a is b: return True
    if type(a) is int and type(b) is int: return a==b
    if isinstance(a,Fraction) and isinstance(b,Fraction): return a==b
    if isinstance(a,Flo) and isinstance(b,Flo):
        if math.isnan(a.v) and math.isnan(b.v): return True
        return fbits(a.v)==fbits(b.v)
    if isinstance(a,Char) and isinstance(b,Char): return a.c==b.c
    return False
def exactof(x):
    if isinstance(x,Flo): return norm(Fraction(x.v))
    return x
def cmp(a,b):
    # -1 0 1 or None
    def key(x):
        if isinstance(x,Flo):
            if math.isnan(x.v): return None
            if math.isinf(x.v): return (1 if x.v>0 else -1,0)
            return (0,Fraction(x.v))
        return (0,Fraction(x))
    p=key(a); q=key(b)
    if p is None or q is None: return None
    return (p>q)-(p<q)

SYMCH=set('abcdefghijklmnopqrstuvwxyzABCDEFGHIJKLMNOPQRSTUVWXYZ0123456789!$%&*+-./:<=>?@^_~')
DELIM=set([9,10,13,32])|set(map(ord,'()";\'`,|'))
NAMES={'alarm':7,'backspace':8,'delete':127,'escape':27,'newline':10,'null':0,'return':13,'space':32,'tab':9}

class Reader:
    def __init__(s,house,data,pos,isinput):
        s.h=house; s.d=data; s.p=pos; s.inp=isinput; s.n=len(data); s.tally=0; s.labels={}; s.new=[]
    def at(s,i):
        c=s.d[i]
        if s.inp and c>127: c=63
        if c not in(9,10,13) and not 32<=c<=126: raise Wrong(i)
        return c
    def raw(s,i):
        if i>=s.n: return -1
        c=s.d[i]
        if s.inp and c>127: c=63
        return c
    def intern(s,name):
        sym=s.h.syms.get(name)
        if sym is None:
            sym=Sym(name); s.h.syms[name]=sym; s.new.append(name); s.tally+=1+len(name)
        return sym
    def undo(s):
        for n in s.new: del s.h.syms[n]
    def blanks(s,depth):
        while s.p<s.n:
            c=s.at(s.p)
            if c in(9,10,13,32): s.p+=1
            elif c==59:
                while s.p<s.n and s.at(s.p)!=10: s.p+=1
            elif c==35 and s.raw(s.p+1)==124:
                lv=0
                while True:
                    if s.p>=s.n: raise Wrong(s.n)
                    c=s.at(s.p); d=s.raw(s.p+1)
                    if c==35 and d==124: lv+=1; s.p+=2
                    elif c==124 and d==35:
                        lv-=1; s.p+=2
                        if lv==0: break
                    else: s.p+=1
            elif c==35 and s.raw(s.p+1)==59:
                s.p+=2
                s.datum(depth,False)
            else: return
    # datum: skips blanks first; closing paren -> Wrong
    def datum(s,depth,can_dot=False,closing=False):
        s.blanks(depth)
        if s.p>=s.n: raise Wrong(s.n)
        if depth==0: s.labels={}
        return s.datum1(depth,None)
    def deeper(s,depth,st):
        if depth>=60: raise Wrong(st)
        return depth+1
    def datum1(s,depth,setters,notstand=False):
        # setters: list of label numbers waiting for object
        st=s.p
        c=s.at(st)
        def tell(v):
            for n in setters or []: s.labels[n]=('known',v)
        if notstand and c in map(ord,"('`,"): raise Wrong(st)
        if c==40: # (
            d=s.deeper(depth,st); s.p+=1
            return s.lst(d,setters)
        if c==41: raise Wrong(st)
        if c in (39,96,44):
            d=s.deeper(depth,st)
            nm={39:'quote',96:'quasiquote',44:'unquote'}[c]; s.p+=1
            if c==44 and s.raw(s.p)==64: nm='unquote-splicing'; s.p+=1
            q=Pair(NIL,NIL); l=Pair(s.intern(nm),q); s.tally+=2
            tell(l)
            q.car=s.datum(d)
            return l
        if c==34:
            v=s.quoted(34,st)
            if notstand: raise Wrong(st)
            s.tally+=1+len(v)
            v=Str(v); tell(v); return v
        if c==124:
            v=s.quoted(124,st)
            if len(v)>40: raise Wrong(st)
            if notstand: raise Wrong(st)
            v=s.intern(''.join(map(chr,v))); tell(v); return v
        if c==35:
            e=s.raw(st+1)
            if e==40:
                if notstand: raise Wrong(st)
                d=s.deeper(depth,st); s.p+=2
                v=Vec([]); tell(v)
                while True:
                    s.blanks(d)
                    if s.p>=s.n: raise Wrong(s.n)
                    if s.at(s.p)==41: s.p+=1; break
                    v.e.append(s.datum1(d,None))
                s.tally+=1+len(v.e)
                return v
            if e==117 and s.raw(st+2)==56 and s.raw(st+3)==40:
                if notstand: raise Wrong(st)
                d=s.deeper(depth,st); s.p+=4
                v=Bytes([])
                while True:
                    s.blanks(d)
                    if s.p>=s.n: raise Wrong(s.n)
                    c=s.at(s.p)
                    if c==41: s.p+=1; break
                    b=s.p
                    if c in DELIM: raise Wrong(b)
                    if c==35 and s.raw(b+1)==92:
                        if b+2>=s.n: raise Wrong(s.n)
                        if s.at(b+2)>=32: t=s.token(b+3)
                        raise Wrong(b)
                    t=s.token(b)
                    x=parse_number(t)
                    if type(x) is not int or not 0<=x<=255: raise Wrong(b)
                    v.e.append(x)
                s.tally+=1+len(v.e); tell(v)
                return v
            if e==92:
                if st+2>=s.n: raise Wrong(s.n)
                c=s.at(st+2)
                if c<32: raise Wrong(st)
                s.p=st+3
                t=chr(c)+s.token(st+3)
                if len(t)==1:
                    v=c if c>=32 else -1
                elif t in NAMES: v=NAMES[t]
                elif t[0]=='x' and len(t)<=3 and all(q in '0123456789abcdefABCDEF' for q in t[1:]) and int(t[1:],16)<128: v=int(t[1:],16)
                else: v=-1
                if v<0: raise Wrong(st)
                if notstand: raise Wrong(st)
                v=CH[v]; tell(v); return v
            if 48<=e<=57:
                j=st+1; num=''
                while j<s.n and 48<=s.raw(j)<=57 and len(num)<2: num+=chr(s.raw(j)); j+=1
                f=s.raw(j)
                if f in(61,35):
                    if notstand: raise Wrong(st)
                    n=int(num)
                    if f==61:
                        if n in s.labels: raise Wrong(st)
                        d=s.deeper(depth,st)
                        s.labels[n]=('told',None); s.p=j+1
                        s.blanks(d)
                        if s.p>=s.n: raise Wrong(s.n)
                        v=s.datum1(d,(setters or [])+[n])
                        s.labels[n]=('known',v); 
                        return v
                    if n not in s.labels or s.labels[n][0]=='told': raise Wrong(st)
                    s.p=j+1
                    k,v=s.labels[n]
                    if k=='open':
                        if v[0] is None: v[0]=Pair(NIL,NIL)
                        v=v[0]
                    tell(v)
                    return v
        t=s.token(st)
        if t=='.': 
            raise Wrong(st)
        v=s.atom(t,st)
        if notstand: raise Wrong(st)
        tell(v); return v
    def token(s,b):
        i=b
        while i<s.n:
            c=s.at(i)
            if c in DELIM: break
            i+=1
        s.p=i
        return ''.join(chr(s.raw(k)) for k in range(b,i))
    def atom(s,t,st):
        if t in('#t','#true'): return True
        if t in('#f','#false'): return False
        x=parse_number(t)
        if x is TOOBIG: raise Wrong(st)
        if x is not None:
            s.tally+=units(x); return x
        if t=='' or t[0].isdigit() or len(t)>40 or any(c not in SYMCH for c in t): raise Wrong(st)
        return s.intern(t)
    def lst(s,d,setters):
        cell=[None]
        for n in setters or []: s.labels[n]=('open',cell)
        first=None; last=None
        while True:
            s.blanks(d)
            if s.p>=s.n: raise Wrong(s.n)
            c=s.at(s.p)
            if c==41:
                s.p+=1
                return first if first is not None else NIL
            if c==46:
                b=s.p; 
                t=s.token(b)
                if t=='.':
                    if first is None: raise Wrong(b)
                    s.blanks(d)
                    if s.p>=s.n: raise Wrong(s.n)
                    last.cdr=s.datum1(d,None)
                    s.blanks(d)
                    if s.p>=s.n: raise Wrong(s.n)
                    if s.at(s.p)==41: s.p+=1; return first
                    raise Wrong(s.p)
                s.p=b
            v=s.datum1(d,None)
            s.tally+=1
            if first is None:
                first=cell[0] or Pair(NIL,NIL); cell[0]=first
                first.car=v; last=first
            else:
                q=Pair(v,NIL); last.cdr=q; last=q
    def quoted(s,q,st):
        out=[]; i=st+1
        while True:
            if i>=s.n: raise Wrong(s.n)
            c=s.at(i); i+=1
            if c==q: s.p=i; return out
            if c!=92: out.append(c); continue
            if i>=s.n: raise Wrong(s.n)
            c=s.at(i)
            if chr(c) in 'abtnr"\\|':
                out.append({'a':7,'b':8,'t':9,'n':10,'r':13}.get(chr(c),c)); i+=1; continue
            if c==120:
                i+=1; h=''
                while True:
                    if i>=s.n: raise Wrong(s.n)
                    c=s.at(i)
                    if c==59 and h:
                        i+=1; break
                    if chr(c) not in '0123456789abcdefABCDEF' or len(h)==2: raise Wrong(st)
                    h+=chr(c); i+=1
                if int(h,16)>127: raise Wrong(st)
                out.append(int(h,16)); continue
            while i<s.n and s.at(i) in(9,32): i+=1
            if i>=s.n: raise Wrong(s.n)
            if s.at(i)!=10: raise Wrong(st)
            i+=1
            while i<s.n and s.at(i) in(9,32): i+=1
    def all(s):
        out=[]
        while True:
            s.labels={}
            s.blanks(0)
            if s.p>=s.n: return out
            s.labels={}
            out.append(s.datum1(0,None))
    def one(s):
        s.labels={}
        s.blanks(0)
        if s.p>=s.n: return EOF
        s.labels={}
        return s.datum1(0,None)

def pairs_of(x):
    seen=set(); n=0
    while isinstance(x,Pair):
        if id(x) in seen: return -1
        seen.add(id(x)); n+=1; x=x.cdr
    return n
def islist(x):
    seen=set()
    while isinstance(x,Pair):
        if id(x) in seen: return False
        seen.add(id(x)); x=x.cdr
    return x is NIL
def tolist(x):
    out=[]
    while isinstance(x,Pair): out.append(x.car); x=x.cdr
    return out
def isid(x): return isinstance(x,(Sym,Alias))
def symof(x):
    while isinstance(x,Alias): x=x.of
    return x

class House:
    def __init__(s):
        s.syms={}
        s.outp=[]; s.work=0; s.limit=10**12; s.input=b''; s.inpos=0; s.libs=[]
        s.table=Table(); s.used=0; s.full=0; s.done=0; s.result=b''
        s.serial=0; s.handlers=NIL; s.params=NIL; s.winds=None; s.raiser=None
        s.setup()
    def sym(s,n):
        if n not in s.syms: s.syms[n]=Sym(n)
        return s.syms[n]
    def spend(s,n):
        s.work+=n
        if s.work>s.limit:
            s.work=s.limit+1
            raise Limit()
    def cons(s,a,d): s.spend(1); return Pair(a,d)
    def mklist(s,l,tail=NIL):
        for x in reversed(l): tail=s.cons(x,tail)
        return tail
    def mkstr(s,c):
        s.spend(1+len(c)); return Str(c)
    def num(s,x): s.spend(units(x)); return x
    # ---- setup
    def setup(s):
        for c in 'quote if set! lambda begin define define-syntax let-syntax letrec-syntax syntax-error define-library import syntax-rules'.split():
            s.table.b[s.sym(c)]=[Core(c),False]
        import prims
        prims.install(s)
        s.sym('accessor'); s.sym('modifier')
        d=open(os.path.join(os.path.dirname(os.path.abspath(__file__)),'../../shared/DOC.md')).read()
        i=d.index("==== VII. THE PRELUDE"); i=d.index("\n",i)+1
        j=d.index("## Promise 1: A new object")
        text=d[i:j].encode()
        r=Reader(s,text,0,False)
        forms=r.all()
        for f in forms:
            st,v=s.run_forms([f])
            assert st==0,(st,v)
        s.raiser=s.table.b[s.sym('raise')][0].v
        s.winds=s.table.b[s.sym('%winds')][0]
        s.base=sorted([(k.name,k,v[0]) for k,v in s.table.b.items() if not k.name.startswith('%')],key=lambda t:t[0])
        s.work=0; s.limit=40000
        s.outp=[]
    # ---- meaning
    def meaning(s,idn,env):
        # returns ('var',scope,key) | Macro | Core | Place | None ; sets s.lt,s.ls
        while True:
            e=env
            while isinstance(e,Scope):
                if idn in e.b:
                    m=e.b[idn]
                    return m
                e=e.parent
            if isinstance(idn,Sym):
                s.lt=e; s.ls=idn
                b=e.b.get(idn)
                return b[0] if b else None
            env=idn.env; idn=idn.of
    def place(s,sym,t):
        s.spend(2); p=Place(); t.b[sym]=[p,False]; return p
    def same(s,a,ea,b,eb):
        m=s.meaning(a,ea)
        fa=s.ls if (m is None or isinstance(m,Place) and m.v is UNASS) else None
        n=s.meaning(b,eb)
        fb=s.ls if (n is None or isinstance(n,Place) and n.v is UNASS) else None
        if fa is not None or fb is not None: return fa is fb
        return m is n
    # ---- fits / copy
    def fits(s,x,deep,most):
        cnt=[0]
        class No(Exception): pass
        def go(x,d):
            while True:
                if d>deep: raise No()
                if isinstance(x,Pair):
                    cnt[0]+=1
                    if cnt[0]>most: raise No()
                    go(x.car,d+1); x=x.cdr; continue
                if isinstance(x,Vec):
                    cnt[0]+=1
                    if cnt[0]>most: raise No()
                    for e in x.e: go(e,d+1)
                return
        try: go(x,0); return True
        except No: return False
    def copy(s,x):
        if isinstance(x,Alias): return symof(x)
        if isinstance(x,Vec):
            out=[s.copy(e) for e in x.e]; s.spend(1+len(out)); return Vec(out)
        if isinstance(x,Pair):
            items=[]
            while isinstance(x,Pair):
                items.append(s.copy(x.car)); s.spend(1); x=x.cdr
            t=s.copy(x)
            for v in reversed(items): t=Pair(v,t)
            return t
        return x
    # ---- rules
    def bind_rules(s,R,env):
        def bad(): raise Syntax(R)
        if not isinstance(R,Pair) or not islist(R): bad()
        L=tolist(R)
        if not isid(L[0]): bad()
        m=s.meaning(L[0],env)
        if not (isinstance(m,Core) and m.n=='syntax-rules'): bad()
        L=L[1:]; own=None
        if L and isid(L[0]): own=L[0]; L=L[1:]
        if not L or not islist(L[0]): bad()
        lits=tolist(L[0])
        if not all(isid(x) for x in lits): bad()
        rules=[]
        mac=Macro(env,lits,rules,own)
        for r in L[1:]:
            if not islist(r) or pairs_of(r)!=2: bad()
            p=r.car; t=r.cdr.car
            if not isinstance(p,Pair): bad()
            if not s.fits(p.cdr,100,5000) or not s.fits(t,100,5000): bad()
            vars={}
            if not s.chkpat(mac,p.cdr,0,vars): bad()
            if not s.chktem(mac,t,0,False,vars): bad()
            rules.append((p.cdr,t,vars))
        s.spend(3)
        return mac
    def isell(s,mac,x):
        if not isid(x): return False
        if any(x is l for l in mac.lits): return False
        if mac.ell is not None: return x is mac.ell
        return symof(x).name=='...'
    def parts(s,p):
        # list of parts and tail
        if isinstance(p,Vec): return list(p.e),NIL
        out=[]
        while isinstance(p,Pair): out.append(p.car); p=p.cdr
        return out,p
    def chkpat(s,mac,p,d,vars):
        if isinstance(p,(Pair,Vec)):
            L,t=s.parts(p)
            i=0; seen=False
            while i<len(L):
                if s.isell(mac,L[i]): return False
                if i+1<len(L) and s.isell(mac,L[i+1]):
                    if seen: return False
                    seen=True
                    if not s.chkpat(mac,L[i],d+1,vars): return False
                    i+=2
                else:
                    if not s.chkpat(mac,L[i],d,vars): return False
                    i+=1
            return s.chkpat(mac,t,d,vars)
        if isid(p):
            if s.isell(mac,p): return False
            if any(p is l for l in mac.lits) or symof(p).name=='_': return True
            if p in vars: return False
            vars[p]=d
        return True
    def ids(s,t):
        if isid(t): return [t]
        if isinstance(t,(Pair,Vec)):
            L,x=s.parts(t); out=[]
            for e in L: out+=s.ids(e)
            return out+s.ids(x)
        return []
    def chktem(s,mac,t,m,esc,vars):
        if isinstance(t,Pair) and not esc and s.isell(mac,t.car):
            if not(islist(t) and pairs_of(t)==2): return False
            return s.chktem(mac,t.cdr.car,m,True,vars)
        if isinstance(t,(Pair,Vec)):
            L,x=s.parts(t); i=0
            while i<len(L):
                p=L[i]; i+=1; k=0
                if not esc:
                    while i<len(L) and s.isell(mac,L[i]): k+=1; i+=1
                if k:
                    best=max([vars.get(v,0) for v in s.ids(p)],default=0)
                    if best-m<k: return False
                if not s.chktem(mac,p,m+k,esc,vars): return False
            return s.chktem(mac,x,m,esc,vars)
        if isid(t):
            if t in vars: return vars[t]<=m
            if not esc and s.isell(mac,t): return False
        return True
    def use(s,mac,form,env):
        if not mac.rules: s.spend(1)
        for p,t,vars in mac.rules:
            s.spend(1)
            s.things=0; s.useform=form
            b={}
            if s.match(mac,p,form.cdr,env,b):
                return s.inst(mac,t,b,{},False)
        raise Syntax(form)
    def thing(s):
        s.things+=1
        if s.things>20000: raise Syntax(s.useform)
    def patvars(s,mac,p):
        out=[]
        for i in s.ids(p):
            if s.isell(mac,i) or any(i is l for l in mac.lits) or symof(i).name=='_': continue
            out.append(i)
        return out
    def match(s,mac,p,x,env,b):
        if isid(p):
            if any(p is l for l in mac.lits):
                s.spend(1)
                return isid(x) and s.same(x,env,p,mac.env)
            if symof(p).name=='_': return True
            s.thing(); b[p]=x; return True
        if isinstance(p,Pair): return s.matchseq(mac,p,x,env,b)
        if isinstance(p,Vec):
            if not isinstance(x,Vec): return False
            def l(v):
                t=NIL
                for e in reversed(v.e): t=Pair(e,t)
                return t
            return s.matchseq(mac,l(p),l(x),env,b)
        if isinstance(p,(Str,Bytes)):
            n=len(p.c) if isinstance(p,Str) else len(p.e)
            s.spend(1+n//64)
            if type(p) is not type(x): return False
            return p.c==x.c if isinstance(p,Str) else p.e==x.e
        if p is NIL: return x is NIL
        if isinstance(p,bool) or isinstance(x,bool): return p is x
        return eqv(p,x)
    def matchseq(s,mac,p,x,env,b):
        while isinstance(p,Pair):
            if isinstance(p.cdr,Pair) and s.isell(mac,p.cdr.car):
                behind=pairs_of(p.cdr.cdr); there=pairs_of(x)
                if there<behind: return False
                k=there-behind
                s.spend(k)
                vs=s.patvars(mac,p.car)
                for v in vs: s.thing(); b[v]=[]
                for i in range(k):
                    s.thing()
                    c={}
                    if not s.match(mac,p.car,x.car,env,c): return False
                    for v in vs: b[v].append(c[v])
                    x=x.cdr
                p=p.cdr.cdr; continue
            if not isinstance(x,Pair): return False
            if not s.match(mac,p.car,x.car,env,b): return False
            p=p.cdr; x=x.cdr
        return s.match(mac,p,x,env,b)
    def inst(s,mac,t,b,al,esc,depths=None):
        # b: id -> datum or list (python list = row) ; need depth info: row represented as python list
        if isid(t):
            if t in b: return b[t]
            if t in al: return al[t]
            s.spend(1); a=Alias(t,mac.env); al[t]=a; return a
        if isinstance(t,Pair) and not esc and s.isell(mac,t.car): return s.inst(mac,t.cdr.car,b,al,True)
        if isinstance(t,(Pair,Vec)):
            L,x=s.parts(t); out=[]; i=0
            while i<len(L):
                p=L[i]; i+=1; k=0
                if not esc:
                    while i<len(L) and s.isell(mac,L[i]): k+=1; i+=1
                if k==0:
                    out.append(s.inst(mac,p,b,al,esc)); s.spend(1)
                else: s.instrow(mac,p,k,b,al,out)
            if isinstance(t,Vec):
                s.spend(1); return Vec(out)
            tail=s.inst(mac,x,b,al,esc) if x is not NIL else NIL
            for v in reversed(out): tail=Pair(v,tail)
            return tail
        return t
    def instrow(s,mac,p,k,b,al,out):
        vs=[]
        for i in s.ids(p):
            if i in b and isinstance(b[i],list) and i not in vs: vs.append(i)
        n=len(b[vs[0]])
        for v in vs:
            if len(b[v])!=n: raise Syntax(s.useform)
        for j in range(n):
            c=dict(b)
            for v in vs: c[v]=b[v][j]
            if k>1: s.instrow(mac,p,k-1,c,al,out)
            else:
                out.append(s.inst(mac,p,c,al,False)); s.spend(1)
    # ---- expander: to AST tuples
    def corename(s,x,env):
        if isinstance(x,Pair) and isid(x.car):
            m=s.meaning(x.car,env)
            return m if isinstance(m,(Core,Macro)) else None
        return None
    def expr(s,x,env,depth):
        if depth>250: raise Syntax(x)
        while True:
            m=s.corename(x,env)
            if isinstance(m,Macro): x=s.use(m,x,env); continue
            break
        return s.expr1(x,m,env,depth)
    def expr1(s,x,m,env,depth):
        s.spend(1)
        if isid(x):
            v=s.meaning(x,env)
            if isinstance(v,(Core,Macro)): raise Syntax(x)
            if v is None: v=s.place(s.ls,s.lt)
            return ('ref',v,symof(x))
        if not isinstance(x,Pair):
            if x is NIL: raise Syntax(x)
            if isinstance(x,Vec):
                if not s.fits(x,250,20000): raise Syntax(x)
                x=s.copy(x)
            return ('const',x)
        if not islist(x): raise Syntax(x)
        L=tolist(x)
        if m is None:
            return ('app',[s.expr(e,env,depth+1) for e in L])
        w=m.n
        if w=='quote':
            if len(L)!=2: raise Syntax(x)
            if not s.fits(L[1],250,20000): raise Syntax(x)
            return ('const',s.copy(L[1]))
        if w=='if':
            if len(L) not in(3,4): raise Syntax(x)
            return ('if',[s.expr(e,env,depth+1) for e in L[1:]])
        if w=='set!':
            if len(L)!=3 or not isid(L[1]): raise Syntax(x)
            v=s.meaning(L[1],env)
            if isinstance(v,(Core,Macro)): raise Syntax(x)
            if v is None: v=s.place(s.ls,s.lt)
            return ('set',v,symof(L[1]),s.expr(L[2],env,depth+1))
        if w=='lambda':
            if len(L)<3: raise Syntax(x)
            s.spend(2)
            return s.lam(x,L[1],x.cdr.cdr,env,depth)
        if w=='begin':
            if len(L)<2: raise Syntax(x)
            c=[s.expr(e,env,depth+1) for e in L[1:]]
            return c[0] if len(c)==1 else ('seq',c)
        if w in('let-syntax','letrec-syntax'):
            if len(L)<3 or not islist(L[1]): raise Syntax(x)
            sc=Scope(env)
            for bnd in tolist(L[1]):
                if not islist(bnd) or pairs_of(bnd)!=2 or not isid(bnd.car): raise Syntax(x)
                s.spend(1)
                sc.b[bnd.car]=s.bind_rules(bnd.cdr.car,env if w=='let-syntax' else sc)
            if depth+1>250: raise Syntax(x)
            s.spend(4)
            return ('app',[s.lam(x,NIL,x.cdr.cdr,sc,depth+1)])
        if w=='syntax-error':
            if len(L)<2 or not isinstance(L[1],Str): raise Syntax(x)
            raise Syntax(x,L[1],L[2:])
        raise Syntax(x)
    def lam(s,form,formals,body,env,depth):
        sc=Scope(env)
        names=[]; rest=None
        f=formals
        def add(i):
            if not isid(i) or i in sc.b: raise Syntax(form)
            s.spend(1)
            v=Var(); sc.b[i]=v; return v
        while isinstance(f,Pair): names.append(add(f.car)); f=f.cdr
        if f is not NIL: rest=add(f)
        b=Scope(sc)
        d=depth+1
        defs=[]; exprs=[]
        stack=[]; cur=body
        found=False
        while True:
            while cur is NIL and stack: cur=stack.pop()
            if cur is NIL: break
            x=cur.car; cur=cur.cdr
            if d>250: raise Syntax(x)
            while True:
                m=s.corename(x,b)
                if isinstance(m,Macro): x=s.use(m,x,b); continue
                break
            w=m.n if m else None
            if w=='begin':
                s.spend(1)
                if not islist(x): raise Syntax(x)
                stack.append(cur); cur=x.cdr; continue
            if w=='define':
                s.spend(1)
                if not islist(x): raise Syntax(x)
                i=s.defid(x)
                if i in b.b: raise Syntax(form)
                s.spend(1)
                v=Var(); b.b[i]=v
                defs.append((v,x)); continue
            if w=='define-syntax':
                s.spend(1)
                if not islist(x): raise Syntax(x)
                L=tolist(x)
                if len(L)!=3 or not isid(L[1]): raise Syntax(x)
                if L[1] in b.b: raise Syntax(form)
                s.spend(1)
                b.b[L[1]]=s.bind_rules(L[2],b)
                continue
            exprs.append((x,m)); found=True
            break
        if not found: raise Syntax(form)
        rest_forms=tolist(cur)
        while stack: rest_forms+=tolist(stack.pop())
        D=[]
        for v,x in defs: D.append((v,s.defval(x,b,d)))
        E=[]
        first=True
        # the first one was macro-expanded already
        x,m=exprs[0]
        E.append(s.expr1(x,m,b,d))
        for y in rest_forms: E.append(s.expr(y,b,d))
        return ('lam',names,rest,D,E)
    def defid(s,x):
        L=tolist(x)
        if len(L)<2: raise Syntax(x)
        i=L[1]
        if isinstance(i,Pair): i=i.car
        elif len(L)!=3: raise Syntax(x)
        if not isid(i): raise Syntax(x)
        return i
    def defval(s,x,env,d):
        L=tolist(x)
        if isinstance(L[1],Pair):
            if d+1>250: raise Syntax(x)
            s.spend(1)
            if len(L)<3: raise Syntax(x)
            s.spend(2)
            return s.lam(x,L[1].cdr,x.cdr.cdr,env,d+1)
        return s.expr(L[2],env,d+1)
    # ---- outermost
    def run_forms(s,forms):
        s.done=0; last=None
        try:
            for f in forms:
                last_v=s.outer(f,s.table)
                last=last_v; s.done+=1
            return 0,last
        except Stop as e:
            return 1,e.v
        except Limit:
            return 2,last
    def fresh(s):
        s.serial+=1; s.handlers=NIL; s.params=NIL
        if s.winds: s.winds.v=NIL
    def outer(s,x,t):
        s.fresh()
        try:
            while True:
                m=s.corename(x,t)
                if isinstance(m,Macro): x=s.use(m,x,t); continue
                break
            w=m.n if m else None
            if w in('begin','define','define-syntax','import','define-library'):
                s.spend(1)
                if not islist(x): raise Syntax(x)
                L=tolist(x)
                if w=='begin':
                    pass
                elif w=='define':
                    i=symof(s.defid(x))
                    code=s.defval(x,t,0)
                elif w=='define-syntax':
                    if len(L)!=3 or not isid(L[1]): raise Syntax(x)
                    mac=s.bind_rules(L[2],t)
                    t.b[symof(L[1])]=[mac,False]
                    return UNSPEC
                elif w=='import':
                    ent=s.sets(L[1:],x)
                    s.bindall(ent,t)
                    return UNSPEC
                else:
                    if t is not s.table: raise Syntax(x)
                    lib,begins=s.library(x,L)
            else:
                code=s.expr1(x,m,t,0)
        except Syntax as e:
            return s.syntax(e)
        if w=='begin':
            v=UNSPEC
            for f in L[1:]: v=s.outer(f,t)
            return v
        if w=='define':
            s.spend(1)
            return s.execute(code,(('define',i,t),None))
        if w=='define-library':
            for f in begins: s.outer(f,lib['table'])
            for q in s.libs:
                if q['name']==lib['name']:
                    q['table']=lib['table']; q['exports']=lib['exports']; return UNSPEC
            s.libs.append(lib)
            return UNSPEC
        return s.execute(code,None)
    def syntax(s,e):
        if e.msg is not None:
            m=s.mkstr(e.msg.c)
            irr=[]
            for d in e.irr:
                irr.append(s.copy(d) if s.fits(d,250,20000) else NIL); s.spend(1)
            t=NIL
            for v in reversed(irr): t=Pair(v,t)
        else:
            t=s.cons(s.copy(e.form),NIL) if s.fits(e.form,250,20000) else NIL
            m=s.mkstr(map(ord,'syntax')) if False else s.mkstr([ord(c) for c in 'syntax'])
        s.spend(1)
        s.spend(2)
        return s.execute(None,None,(s.raiser,[Err(m,t)]))
    # ---- libraries
    def name(s,x):
        if not isinstance(x,Pair) or not islist(x): return None
        out=[]
        for p in tolist(x):
            if isid(p): out.append(symof(p))
            elif type(p) is int and p>=0: out.append(p)
            else: return None
        return out
    def symid(s,x,n): return isid(x) and symof(x).name==n
    def oneset(s,x,whole):
        if isinstance(x,Pair) and islist(x):
            L=tolist(x)
            if len(L)>1 and isinstance(L[1],Pair):
                for kw in('only','except','prefix','rename'):
                    if s.symid(L[0],kw):
                        inner=s.oneset(L[1],whole)
                        names=[n for n,_ in inner]
                        def idx(i):
                            if not isid(i) or symof(i) not in names: raise Syntax(whole)
                            return names.index(symof(i))
                        if kw=='only':
                            keep=set(idx(i) for i in L[2:])
                            return [e for k,e in enumerate(inner) if k in keep]
                        if kw=='except':
                            drop=set(idx(i) for i in L[2:])
                            return [e for k,e in enumerate(inner) if k not in drop]
                        if kw=='prefix':
                            if len(L)!=3 or not isid(L[2]): raise Syntax(whole)
                            out=[]
                            for n,w in inner:
                                nm=symof(L[2]).name+n.name
                                if len(nm)>40: raise Syntax(whole)
                                if nm not in s.syms:
                                    s.syms[nm]=Sym(nm); s.spend(1+len(nm))
                                out.append((s.syms[nm],w))
                            return out
                        new={}
                        for pr in L[2:]:
                            if not islist(pr) or pairs_of(pr)!=2: raise Syntax(whole)
                            a,b=tolist(pr)
                            k=idx(a)
                            if k in new or not isid(b): raise Syntax(whole)
                            new[k]=symof(b)
                        out=[(new.get(k,n),w) for k,(n,w) in enumerate(inner)]
                        if len(set(n for n,_ in out))!=len(out): raise Syntax(whole)
                        return out
        n=s.name(x)
        if n is None: raise Syntax(whole)
        if isinstance(n[0],Sym) and n[0].name=='scheme':
            return [(sy,('is',m)) for _,sy,m in s.base]
        for q in s.libs:
            if q['name']==n: return [(a,('in',b,q['table'])) for a,b in q['exports']]
        raise Syntax(whole)
    def sets(s,L,whole):
        out=[]
        for x in L: out+=s.oneset(x,whole)
        return out
    def bindall(s,ent,t):
        s.spend(len(ent))
        for n,w in ent:
            if w[0]=='is': m=w[1]
            else:
                b=w[2].b.get(w[1])
                m=b[0] if b else s.place(w[1],w[2])
            t.b[n]=[m,True]
    def library(s,x,L):
        if len(L)<2: raise Syntax(x)
        n=s.name(L[1])
        if n is None: raise Syntax(x)
        exports=[]; imps=[]; begins=[]
        for d in L[2:]:
            if not isinstance(d,Pair) or not islist(d): raise Syntax(x)
            D=tolist(d)
            if s.symid(D[0],'import'): imps+=D[1:]
            elif s.symid(D[0],'begin'): begins+=D[1:]
            elif s.symid(D[0],'export'):
                for e in D[1:]:
                    if isinstance(e,Pair):
                        if not islist(e) or pairs_of(e)!=3 or not s.symid(e.car,'rename'): raise Syntax(x)
                        _,a,b=tolist(e)
                    else: a=b=e
                    if not isid(a) or not isid(b): raise Syntax(x)
                    if symof(b) in [q for q,_ in exports]: raise Syntax(x)
                    exports.append((symof(b),symof(a)))
                    if len(exports)>1000: raise Syntax(x)
            else: raise Syntax(x)
        if len(s.libs)>=12 and not any(q['name']==n for q in s.libs): raise Syntax(x)
        t=Table()
        ent=s.sets(imps,x)
        s.bindall(ent,t)
        return {'name':n,'table':t,'exports':exports},begins
    # ---- machine.  k = (frame, next)
    def execute(s,code,k,app=None):
        env=None
        if app:
            mode='apply'; f,args=app
        else: mode='eval'
        while True:
            try:
                if mode=='eval':
                    op=code[0]
                    if op=='const': v=code[1]; mode='ret'
                    elif op=='ref':
                        p=code[1]
                        if isinstance(p,Place): 
                            v=p.v
                            if v is UNASS: raise Cond('unbound',[code[2]])
                        else:
                            e=env
                            while p not in e[0]: e=e[1]
                            v=e[0][p]
                            if v is UNASS: raise Cond('unassigned',[code[2]])
                        mode='ret'
                    elif op=='lam':
                        s.spend(2); v=Lam(code,env); mode='ret'
                    elif op=='if':
                        s.spend(1); k=(('if',code,env),k); code=code[1][0]
                    elif op=='set':
                        s.spend(1); k=(('set',code,env),k); code=code[3]
                    elif op=='seq':
                        s.spend(1); k=(('seq',code,env,0),k); code=code[1][0]
                    elif op=='app':
                        s.spend(1); k=(('app',code,env,()),k); code=code[1][0]
                    elif op=='body':
                        _,D,E=code
                        n=len(D)+len(E)
                        s.spend((1 if n>1 else 0)+len(D))
                        for vv,_ in D: env[0][vv]=UNASS
                        if D:
                            s.spend(1); k=(('bdef',code,env,0),k); code=D[0][1]
                        elif len(E)>1:
                            k=(('bexp',code,env,0),k); code=E[0]
                        else: code=E[0]
                elif mode=='ret':
                    if k is None: return v
                    fr,k=k
                    t=fr[0]
                    if t=='if':
                        env=fr[2]; br=fr[1][1]
                        if v is not False: code=br[1]; mode='eval'
                        elif len(br)>2: code=br[2]; mode='eval'
                        else: v=UNSPEC
                    elif t=='set':
                        p=fr[1][1]
                        if isinstance(p,Place):
                            if p.v is UNASS: raise Cond('unbound',[fr[1][2]])
                            p.v=v
                        else:
                            e=fr[2]
                            while p not in e[0]: e=e[1]
                            e[0][p]=v
                        v=UNSPEC
                    elif t=='seq':
                        code=fr[1]; env=fr[2]; i=fr[3]+1
                        if i<len(code[1])-1: k=(('seq',code,env,i),k)
                        code=code[1][i]; mode='eval'
                    elif t=='bdef':
                        code=fr[1]; env=fr[2]; i=fr[3]
                        env[0][code[1][i][0]]=v
                        i+=1
                        if i<len(code[1]):
                            s.spend(1); k=(('bdef',code,env,i),k); code=code[1][i][1]
                        elif len(code[2])>1:
                            k=(('bexp',code,env,0),k); code=code[2][0]
                        else: code=code[2][0]
                        mode='eval'
                    elif t=='bexp':
                        code=fr[1]; env=fr[2]; i=fr[3]+1
                        if i<len(code[2])-1: k=(('bexp',code,env,i),k)
                        code=code[2][i]; mode='eval'
                    elif t=='app':
                        s.spend(1)
                        code=fr[1]; env=fr[2]; vs=(v,fr[3]); n=len_of(vs)
                        if n<len(code[1]):
                            k=(('app',code,env,vs),k); code=code[1][n]; mode='eval'
                        else:
                            l=[]
                            while vs: l.append(vs[0]); vs=vs[1]
                            l.reverse(); f=l[0]; args=l[1:]; mode='apply'
                    elif t=='with':
                        s.handlers=fr[1]; s.params=fr[2]
                    elif t=='cwv':
                        args=list(v.l) if isinstance(v,Values) else [v]
                        s.spend(1+len(args)); f=fr[1]; mode='apply'
                    elif t=='define':
                        b=fr[2].b.get(fr[1])
                        if b and isinstance(b[0],Place) and not b[1]: b[0].v=v
                        else: s.place(fr[1],fr[2]).v=v
                        v=UNSPEC
                else:
                    if not isinstance(f,Proc): raise Cond('call',[f])
                    if isinstance(f,Prim):
                        if not f.lo<=len(args)<=f.hi: raise Cond('arity',[f])
                        for i,a in enumerate(args):
                            if not s.istype(f.typ(i),a): raise Cond('type',[s.sym(f.name),a])
                        r=f.fn(args)
                        if isinstance(r,Ctl):
                            if r.t=='apply':
                                f,args=r.a; s.spend(1+len(args))
                            elif r.t=='cwv':
                                k=(('cwv',args[1]),k); f=args[0]; args=[]; s.spend(1)
                            elif r.t=='with':
                                k=(('with',s.handlers,s.params),k); s.handlers=args[0]; s.params=args[1]; f=args[2]; args=[]; s.spend(1)
                            elif r.t=='cc':
                                s.spend(1); c=Cont(k,s.handlers,s.params,s.serial); f=args[0]; args=[c]; s.spend(2)
                            elif r.t=='stop': raise Stop(args[0])
                        else: v=r; mode='ret'
                    elif isinstance(f,Lam):
                        _,names,rest,D,E=f.code
                        if len(args)<len(names) or (len(args)>len(names) and rest is None): raise Cond('arity',[f])
                        fr={}
                        for nm,a in zip(names,args): fr[nm]=a
                        if rest is not None: fr[rest]=s.mklist(args[len(names):])
                        env=(fr,f.env)
                        code=('body',D,E); mode='eval'
                    elif isinstance(f,Cont):
                        if f.serial!=s.serial: raise Cond('dead',[])
                        if len(args)==1: v=args[0]
                        else: s.spend(1+len(args)); v=Values(args)
                        k=f.k; s.handlers=f.h; s.params=f.p; mode='ret'
                    elif isinstance(f,Param):
                        if args: raise Cond('arity',[f])
                        v=f.v
                        l=s.params; n=0
                        while isinstance(l,Pair) and n<10**6:
                            if isinstance(l.car,Pair) and l.car.car is f: v=l.car.cdr; break
                            l=l.cdr; n+=1
                        mode='ret'
                    elif isinstance(f,Case):
                        for g in f.l:
                            if len(args)==len(g.code[1]) or (len(args)>len(g.code[1]) and g.code[2] is not None):
                                s.spend(1+len(args)); f=g; break
                        else: raise Cond('arity',[f])
                    elif isinstance(f,Maker):
                        if len(args)!=len(f.idx): raise Cond('arity',[f])
                        n=len(f.t.names); s.spend(1+n); fl=[UNSPEC]*n
                        for i,a in zip(f.idx,args): fl[i]=a
                        v=Rec(f.t,fl); mode='ret'
                    elif isinstance(f,Asker):
                        if len(args)!=1: raise Cond('arity',[f])
                        v=isinstance(args[0],Rec) and args[0].t is f.t; mode='ret'
                    elif isinstance(f,Getter):
                        if len(args)!=1: raise Cond('arity',[f])
                        if not(isinstance(args[0],Rec) and args[0].t is f.t): raise Cond('type',[s.sym('accessor'),args[0]])
                        v=args[0].f[f.i]; mode='ret'
                    elif isinstance(f,Setter):
                        if len(args)!=2: raise Cond('arity',[f])
                        if not(isinstance(args[0],Rec) and args[0].t is f.t): raise Cond('type',[s.sym('modifier'),args[0]])
                        args[0].f[f.i]=args[1]; v=UNSPEC; mode='ret'
            except Cond as c:
                m=s.mkstr([ord(ch) for ch in c.kind])
                irr=s.mklist(c.irr)
                s.spend(1); s.spend(2)
                f=s.raiser; args=[Err(m,irr)]; mode='apply'
    def istype(s,t,a):
        if t=='x': return True
        if t=='n': return isnum(a) and not isinstance(a,bool)
        if t=='i': return isint(a) and not isinstance(a,bool)
        if t=='k': return type(a) is int and a>=0
        if t=='p': return isinstance(a,Pair)
        if t=='l': return islist(a)
        if t=='s': return isinstance(a,Str)
        if t=='c': return isinstance(a,Char)
        if t=='v': return isinstance(a,Vec)
        if t=='b': return isinstance(a,Bytes)
        if t=='y': return isinstance(a,Sym)
        if t=='f': return isinstance(a,Proc)
        if t=='e': return isinstance(a,Err)
        if t=='t': return isinstance(a,RType)
        if t=='m': return isinstance(a,Param)
        raise Exception(t)
    # ---- writing
    def write(s,x,disp,out):
        loops=set(); color={}
        # iterative DFS
        st=[]
        def visit(v):
            if isinstance(v,(Pair,Vec)):
                c=color.get(id(v))
                if c is None:
                    color[id(v)]='open'; st.append([v,0])
                elif c=='open': loops.add(id(v))
        visit(x)
        while st:
            v,i=st[-1]
            kids=[v.car,v.cdr] if isinstance(v,Pair) else v.e
            if i<len(kids): st[-1][1]+=1; visit(kids[i])
            else: st.pop(); color[id(v)]='done'
        num={}
        w=[('v',x)]
        def esc(c,bars):
            t={7:'a',9:'t',10:'n',13:'r'}.get(c)
            if c in(34,92) or (c==124 and bars): t=chr(c)
            if t: out('\\'+t)
            elif c<32 or c==127: out('\\x%x;'%c)
            else: out(chr(c))
        while w:
            t,v=w.pop()
            if t=='s': out(v); continue
            if t=='r':
                if v is NIL: out(')')
                elif isinstance(v,Pair) and id(v) not in loops:
                    out(' '); w.append(('r',v.cdr)); w.append(('v',v.car))
                else:
                    out(' . '); w.append(('s',')')); w.append(('v',v))
                continue
            if t=='e':
                v,i=v
                if i>=len(v.e): out(')')
                else:
                    if i: out(' ')
                    w.append(('e',(v,i+1))); w.append(('v',v.e[i]))
                continue
            if isinstance(v,(Pair,Vec)):
                if id(v) in loops:
                    if id(v) in num: out('#%d#'%num[id(v)]); continue
                    num[id(v)]=len(num); out('#%d='%num[id(v)])
                if isinstance(v,Pair):
                    out('('); w.append(('r',v.cdr)); w.append(('v',v.car))
                else:
                    out('#('); w.append(('e',(v,0)))
            elif v is True: out('#t')
            elif v is False: out('#f')
            elif isnum(v): out(numtext(v))
            elif v is NIL: out('()')
            elif v is UNSPEC: out('#<unspecified>')
            elif v is EOF: out('#<eof>')
            elif isinstance(v,Sym):
                n=v.name
                bars=n=='' or any(c not in SYMCH for c in n) or n[0].isdigit() or n=='.' or parse_number(n) is not None
                if disp or not bars: out(n)
                else:
                    out('|')
                    for c in n: esc(ord(c),True)
                    out('|')
            elif isinstance(v,Str):
                if disp: 
                    for c in v.c: out(chr(c))
                else:
                    out('"')
                    for c in v.c: esc(c,False)
                    out('"')
            elif isinstance(v,Char):
                if disp: out(chr(v.c))
                else:
                    inv={b:a for a,b in NAMES.items()}
                    out('#\\'+(inv[v.c] if v.c in inv else chr(v.c) if 32<v.c<127 else 'x%x'%v.c))
            elif isinstance(v,Bytes): out('#u8('+' '.join(map(str,v.e))+')')
            elif isinstance(v,Values): out('#<values>')
            elif isinstance(v,Proc): out('#<procedure>')
            elif isinstance(v,(Rec,RType)): out('#<record>')
            elif isinstance(v,Err):
                if isinstance(v.msg,Str): out('#<error '+''.join(map(chr,v.msg.c))+'>')
                else: out('#<error>')
            else: raise Exception(v)
    def emit(s,t):
        for c in t:
            if len(s.outp)>=3000: raise Limit()
            s.outp.append(ord(c))
    # ---- face
    def evaluate(s,text):
        s.work=0; s.outp=[]; s.result=b''; s.done=0
        r=Reader(s,text,0,False)
        try: forms=r.all()
        except Wrong as w:
            r.undo(); return -1-w.p
        s.work=r.tally
        st,v=s.run_forms(forms)
        if v is not None:
            class Full(Exception): pass
            buf=[]
            def out(t):
                buf.extend(map(ord,t))
                if len(buf)>=3000: raise Full()
            try: s.write(v,False,out)
            except Full: pass
            s.result=bytes(buf[:3000])
        s.used+=s.work
        if s.used>200000:
            keep=(s.outp,s.result,s.work,s.done,s.input,s.inpos,s.full+1,s.serial)
            s.__init__()
            s.outp,s.result,s.work,s.done,s.input,s.inpos,s.full,s.serial=keep
            s.used=0
        return st
class Stop(Exception):
    def __init__(s,v): s.v=v
class Ctl:
    def __init__(s,t,a=None): s.t=t; s.a=a
def len_of(vs):
    n=0
    while vs: n+=1; vs=vs[1]
    return n
