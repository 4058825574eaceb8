# reader fuzz
import random,sys
seed=int(sys.argv[1]); n=int(sys.argv[2]); out=sys.argv[3]
R=random.Random(seed)
toks=['(',')',"'",'`',',',',@','#(','#u8(','#;','#0=','#0#','#1=','#1#','#00=','#12=','#12#','.','...','a','foo','1','255','256','1.5','-','+','1+','#t','#f','#true','#false','#T','#\\a','#\\','#\\ ','#\\space','#\\x41','#\\x80','#\\x7f','#\\(','#\\newlin','"abc"','"a\\x41;b"','"\\q"','"a\\\n  b"','"\\   \n\t x"','"un','|a b|','|a\\x41;|','||','|','#|c|#','#| #| x |# |#','#|','; com\n',';x',' ','\n','\t','\r','#x1F','#e1.5','#i1/3','#b102','#xAG','1/2','1/0','+1/0','-1/2','.5','5.','1e3','1e1000','+1e1000','1e-400','+inf.0','-nan.0','+inf.1','#e+inf.0','#i-0','#x#e1','#e#x1','#e#e1','#d1.','#x1.','a#b','a|b|c','@','a@b','#','##','#u8','#u','#1','#123=','\x01','\x80','\x7f','#;#;','#u8(1 2)','#u8(#xff #e1e2 #;x 3)','#(1 2)','quote','()','( )','(a . b)','(. a)','(a .)','x'*40,'x'*41,'|'+'y'*40+'|','|'+'y'*41+'|','"\\x;"','"\\x123;"','"\\x7f;"','"\\x4','[',']','{','1.5e+3','1.e2','.e2','-.5e-3','1e+','12345678901234567890','#xFFFFFFFFFFFFFFFFFFFF','1_0','0/5','-0','-0.0','#i-0/5','+5','+.5','-.','+.','1.2.3','1e2e3','é']
def structured(d):
    r=R.random()
    if d<=0 or r<.35: return R.choice(toks)
    if r<.6: return '('+' '.join(structured(d-1) for _ in range(R.randrange(4)))+')'
    if r<.67: return '('+' '.join(structured(d-1) for _ in range(R.randrange(1,3)))+' . '+structured(d-1)+')'
    if r<.73: return '#('+' '.join(structured(d-1) for _ in range(R.randrange(4)))+')'
    if r<.8: return R.choice(["'",'`',',',',@','#;'])+structured(d-1)
    if r<.88: return '#%d='%R.randrange(3)+structured(d-1)
    if r<.92: return '#%d#'%R.randrange(3)
    return '#u8('+' '.join(R.choice(['1','2','255','#x10','256','#;a','x','#\\a','"s"','(','#|c|#','#\\']) for _ in range(R.randrange(4)))+')'
with open(out,'w') as f:
    f.write('NEW\n')
    for i in range(n):
        if i%200==0: f.write('NEW\n')
        r=R.random()
        if r<.3: t=''.join(R.choice(toks)+R.choice(['',' ']) for _ in range(R.randrange(1,8)))
        else: t=structured(R.randrange(1,5))
        if R.random()<.1 and t:
            k=R.randrange(len(t)); t=t[:k]+R.choice(['\x01','"','(',')','|','#',"'",'\\','','\x80'])+t[k+R.randrange(2):]
        if R.random()<.05: t="("*R.randrange(55,64)+t
        r=R.random()
        b=t.encode('latin1')
        if r<.5: f.write('E '+(b"(write '"+b+b")").hex()+'\n')
        elif r<.7: f.write('E '+b.hex()+'\n')
        else:
            f.write('I '+b.hex()+'\n')
            for _ in range(R.randrange(1,4)):
                f.write('E '+R.choice(["(write (read))","(write (read))","(write (guard (e (#t (error-object-message e))) (read)))","(list (read-char) (peek-char))","(write (read-line))","(write (read-string 3))"]).encode().hex()+'\n')
