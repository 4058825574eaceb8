import random,sys,re
seed=int(sys.argv[1]); n=int(sys.argv[2]); out=sys.argv[3]
R=random.Random(seed)
progs=[p.strip() for p in open(__import__('os').path.join(__import__('os').path.dirname(__import__('os').path.abspath(__file__)),'corpus.txt')).read().split('%%')]
tokre=re.compile(r'"(?:\\.|[^"])*"|#\\.[a-z]*|#u8\(|#\(|#\d+[=#]|,@|[()\'`,]|[^\s()\'`,"]+')
alltoks=[t for p in progs for t in tokre.findall(p)]
def subtree(toks):
    # random balanced chunk
    for _ in range(20):
        i=R.randrange(len(toks))
        if toks[i] in('(','#('):
            d=0
            for j in range(i,len(toks)):
                if toks[j] in('(','#(','#u8('): d+=1
                elif toks[j]==')':
                    d-=1
                    if d==0: return toks[i:j+1],i,j+1
        elif toks[i]!=')': return [toks[i]],i,i+1
    return [toks[0]],0,1
def mutate(p):
    t=tokre.findall(p)
    for _ in range(R.choice([1,1,1,2,2,3,4])):
        if not t: return '()'
        r=R.random()
        c,i,j=subtree(t)
        if r<.15: t=t[:i]+t[j:]
        elif r<.3: t=t[:i]+c+c+t[j:]
        elif r<.6:
            o=tokre.findall(R.choice(progs)); d,_,_=subtree(o); t=t[:i]+d+t[j:]
        elif r<.75:
            d,k,l=subtree(t); t=t[:i]+d+t[j:]
        elif r<.85: t=t[:i]+[R.choice(alltoks)]+t[j:]
        elif r<.9:
            t[i:i+1]=[R.choice(alltoks)]
        elif r<.93: t=t[:i]+['.']+t[i:]
        else: t=t[:i]+['(']+c+[')']+t[j:]
    return ' '.join(t)
def join(t): return t
with open(out,'w') as f:
    f.write('NEW\n')
    for i in range(n):
        if i%R.choice([20,40,80])==0: f.write('NEW\n')
        p=R.choice(progs)
        r=R.random()
        if r<.1: pass
        elif r<.9: p=mutate(p)
        else: p=mutate(p)+' '+mutate(R.choice(progs))
        if R.random()<.05: f.write('I '+R.choice(progs).encode('latin1')[:200].hex()+'\n')
        b=p.encode('latin1')[:5980]
        f.write('E '+b.hex()+'\n')
