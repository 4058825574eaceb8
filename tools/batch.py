import threading,sys
threading.stack_size(1024*1024*1024)
def main():
    import model
    h=None; o=[]
    for l in open(sys.argv[1]):
        p=l.rstrip('\n').split(' ')
        if p[0]=='NEW': h=model.House(); o.append('NEW'); continue
        b=bytes.fromhex(p[1])
        if p[0]=='I': h.input=b; h.inpos=0; o.append('I %d'%len(b)); continue
        e=h.evaluate(b)
        o.append('%d %s %s %d %d %d %d %d %d %d'%(e,h.result.hex(),bytes(h.outp).hex(),h.work,h.used,h.full,0,len(h.input)-h.inpos,len(h.libs),h.done))
    open(sys.argv[2],'w').write('\n'.join(o)+'\n')
t=threading.Thread(target=main); t.start(); t.join()
