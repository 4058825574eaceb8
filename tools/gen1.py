# random applications of every procedure
import random,sys,re
seed=int(sys.argv[1]); n=int(sys.argv[2]); out=sys.argv[3]
R=random.Random(seed)
import os
src=open(os.path.join(os.path.dirname(os.path.abspath(__file__)),'../src/main/java/SchemeHouse.java')).read()
src=src[:src.index('private static final Proc[]')]
procs=re.findall(r'\("([^" ]+)", "([^"]*)", \d+\)',src)
ints=['0','1','-1','2','3','-7','10','255','256','268435455','268435456','-268435456','4294967296','123456789012345678901234567890','-99999999999999999999','(expt 2 100)','(expt 2 3999)','(- (expt 3 2000))','5040','100','10000','10001','300001','(expt 10 20)']
fr=['1/2','-1/3','22/7','-7/2','5/2','3/2','123456789012345/987654321','(/ 1 (expt 2 3000))','(/ (expt 3 50) (expt 2 70))','1/4','16/9','-5/2']
fl=['0.0','-0.0','1.0','-1.5','2.5','3.5','0.1','1e10','1e21','1e-7','123.456','1e308','5e-324','+inf.0','-inf.0','+nan.0','7.0','-8.0','0.5','1e22','4503599627370497.5','1e100','-0.4','.000123','1.7976931348623157e308','2.2250738585072014e-308','4.0','1e-320','9007199254740993.0']
strs=['""','"abc"','"Hello World"','"a\\nb\\t\\"q\\\\"','"12"','"#xff"','"1e3"','"-1/3"','"+inf.0"','(make-string 70 #\\z)','"abcdefghijklmnopqrstuvwxyzabcdefghijklmnopq"','"foo bar"','"ABC"','"abd"','"\\x7;\\x41;\\x1b;"']
chars=['#\\a','#\\Z','#\\space','#\\newline','#\\5','#\\x0','#\\delete','#\\x1','#\\(','#\\tab','#\\~']
lists=["'()","'(1 2 3)","'(a b c)","'(#\\a #\\b)","'((a . 1) (b . 2))","'(1 . 2)","'(1 2 . 3)","'#0=(a b . #0#)","(list 1.5 2 1/2)","'((1 2) (3 4))","'(((a b) c) ((d) e))","'(a (b) x)","(list 'x 'y)","(list (expt 2 100) 7)","'(((((1) 2) 3) 4) 5)","(list \"x\" #\\y)"]
vecs=["#()","#(1 2 3)","#(#\\a #\\b)","#(a #(b) \"c\")","(make-vector 5 'z)","'#1=(a #(b #1#))","(vector 1.5 'q)"]
bys=["#u8()","#u8(1 2 3)","#u8(65 66 200)","(make-bytevector 70 7)"]
syms=["'a","'foo","'|a b|","'|1|","'+","'...","'||","'x","'y"]
procs_=['car','(lambda (x) x)','(lambda x x)','(lambda () 1)','list','values','(lambda (a b) (cons b a))','(make-parameter 5)','+','(case-lambda ((a) a) ((a b) b) ((a . r) r))']
misc=['#t','#f','(if #f #f)','(eof-object)','(%make-error "msg" (list 1 2))',"(%type 'pt '(x y))",'(values 1 2)',"(%make-error 'nostring '())"]
allv=ints+fr+fl+strs+chars+lists+vecs+bys+syms+procs_+misc
ks=['0','1','2','3','4','5','10','16','8','2','1','0','-1','300001','10001','(expt 2 70)','1.0','255','256','127','128']
by={'x':allv,'n':ints+fr+fl,'i':ints+['0.0','1.0','7.0','-8.0','1e10','1e21','1e100','-0.0'],'k':ks,'p':lists,'l':lists,'s':strs,'c':chars,'v':vecs,'b':bys,'y':syms,'f':procs_,'e':misc+['(%make-error "m" (list 3))'],'t':["(%type 'pt '(x y))"],'m':['(%make-parameter 1 car)','(make-parameter 2)','car']}
def args(sig):
    L=[];opt=False
    i=0
    while i<len(sig):
        c=sig[i]
        if c=='[':
            if R.random()<.5: break
        elif i+1<len(sig) and sig[i+1]=='*':
            for _ in range(R.choice([0,1,1,2,2,3,5])): L.append(c)
            i+=1
        else: L.append(c)
        i+=1
    if R.random()<.03: L=L[:-1]
    if R.random()<.03: L.append('x')
    return [R.choice(by[c]) if R.random()<.93 else R.choice(allv) for c in L]
def call(depth=0):
    p,sig=R.choice(procs)
    if p in('%stop',) and R.random()<.8: p,sig='list','x*'
    a=args(sig)
    if depth<2:
        a=[call(depth+1) if R.random()<.08 else x for x in a]
    return '(%s)'%' '.join([p]+a)
with open(out,'w') as f:
    f.write('NEW\n')
    for i in range(n):
        if i%150==0: f.write('NEW\n')
        if R.random()<.02:
            f.write('I '+bytes(R.choice(b'abc (1 "x" #\\y\n\n\r\r\t;.\'`,@|#;\xff\x01')for _ in range(R.randrange(30))).hex()+'\n')
        r=R.random()
        t=call()
        if r<.4: t='(write %s)'%t
        elif r<.5: t='(display %s)'%t
        elif r<.6: t='(call-with-values (lambda () %s) list)'%t
        elif r<.65: t="(guard (e ((error-object? e) (list (error-object-message e) (error-object-irritants e)))) %s)"%t
        elif r<.8: t="(with-exception-handler (lambda (e) (%%stop (if (error-object? e) (cons (error-object-message e) (error-object-irritants e)) e))) (lambda () %s))"%t
        f.write('E '+t.encode('latin1').hex()+'\n')
