import subprocess,re,sys,glob,os
cls=sorted(glob.glob('/tmp/tools/SchemeHouse*.class'))
cls=[c for c in cls if 'Runs' not in c]
txt=subprocess.run(['javap','-c','-p']+cls,capture_output=True,text=True).stdout
graph={}
cur=None;curcls=None
for line in txt.split('\n'):
    m=re.match(r'^(?:public |private |static |final |abstract )*(?:class|interface|enum) ([\w$.]+)',line)
    if m: curcls=m.group(1); continue
    m=re.match(r'^  (?:.*?)([\w$<>]+)\(([^)]*)\)(?: throws .*)?;$',line)
    if m and not line.startswith('   '):
        name=m.group(1)
        if name==curcls: name='<init>'
        cur=(curcls,name); graph.setdefault(cur,set()); continue
    if re.match(r'^  static \{\};',line): cur=(curcls,'<clinit>'); graph.setdefault(cur,set()); continue
    m=re.search(r'// (?:Interface)?Method ([\w$./]*?)\.?("?<?\w+>?"?):\(',line)
    if m and 'invoke' in line:
        c=m.group(1) or curcls; n=m.group(2).strip('"')
        graph[cur].add((c,n))
nodes=set(graph)
for k in graph: graph[k]={c for c in graph[k] if c in nodes}
sys.setrecursionlimit(10000)
memo={}
def longest(n,stack=()):
    if n in stack: print('RECURSION',n,stack[stack.index(n):]); return (0,[])
    if n in memo: return memo[n]
    best=(1,[n])
    for c in graph[n]:
        l,p=longest(c,stack+(n,))
        if l+1>best[0]: best=(l+1,[n]+p)
    memo[n]=best
    return best
tot={}
for n in sorted(graph):
    if n[0]=='SchemeHouse':
        l,p=longest(n)
        if l>=int(sys.argv[1]) : print(l,' > '.join(a[1] for a in p))
# all paths longer than limit
lim=int(sys.argv[1])
def paths(n,pre):
    for c in graph[n]:
        p=pre+[c]
        if len(p)>=lim and len(p)-1+memo[c][0]>=lim and not any(len(x)>0 for x in []): pass
        yield p
def show(n,pre,depthlim,seen):
    # print maximal chains exceeding
    l=memo[n][0]
    if len(pre)+l<=depthlim: return
    if not graph[n] or l==1:
        print(len(pre)+1,' > '.join(a[0].replace('SchemeHouse$','')+'.'+a[1] for a in pre+[n])); return
    for c in sorted(graph[n]):
        key=(c,len(pre)+1)
        if len(pre)+1+memo[c][0]>depthlim and key not in seen:
            seen.add(key)
            show(c,pre+[n],depthlim,seen)
if len(sys.argv)>2:
    for e in ['evaluate','<init>']:
        show(('SchemeHouse',e),[],int(sys.argv[1]),set())
