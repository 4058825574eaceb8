import sys,subprocess,os
HERE=os.path.dirname(os.path.abspath(__file__))
# cases file: sequence; compare both
def run(f):
    subprocess.run(['java','-cp','/tmp/tools','Batch',f,f+'.j'],check=True)
    subprocess.run(['python3',os.path.join(HERE,'batch.py'),f,f+'.p'],check=True,cwd=HERE)
    J=open(f+'.j').read().split('\n'); P=open(f+'.p').read().split('\n'); C=open(f).read().split('\n')
    bad=0
    for c,j,p in zip(C,J,P):
        if j!=p:
            bad+=1
            if bad<=int(os.environ.get('MAX','10')):
                t=c.split(' ')
                print('CASE',bytes.fromhex(t[1]).decode('latin1') if len(t)>1 else c)
                def sh(x):
                    q=x.split(' ')
                    if len(q)<9: return x
                    return [q[0],bytes.fromhex(q[1]).decode('latin1'),bytes.fromhex(q[2]).decode('latin1')]+q[3:]
                print(' J',sh(j)); print(' P',sh(p))
    print(f,len(C),'cases',bad,'differ', 'LEN' if len(J)!=len(P) else '')
    return bad
if __name__=='__main__':
    run(sys.argv[1])
