# RULES, uses and libraries of many parts; what is expanded in vain again and again
import sys
out = open(sys.argv[1], 'w')
def new(): out.write('NEW\n')
def e(text):
    assert len(text) <= 6000, len(text)
    out.write('E ' + text.encode('latin1').hex() + '\n')
def vectors(n, k): return '#0=#(' + '1 ' * (n - 1) + '1)' + '#0#' * k
def names(n):
    l = 'abcdefghijklmnopqrstuvwxyzABCDEFGHIJKLMNOPQRSTUVWXYZ'
    d = l + '0123456789'
    a = [c for c in l if c not in 'dkrAFqv'] + [c + x for c in l for x in d if c + x != 'ks']
    return a[:n]
big = vectors(300, 400)
for wide in (500, 1900):
    for times in (1, 3, 5):
        new()
        e('(define-syntax A (syntax-rules () ((_ (k . ks) . r) (k ks #(' + ' '.join(names(wide)) + ') . r))))')
        e('(define-syntax q (syntax-rules () ((_ a ... b) b)))')
        e('(define-syntax F (syntax-rules () ((_ ks v ...) (define-syntax good (syntax-rules () ((_) (q v ... ((lambda (d) d) 7))))))))')
        e('(A (' + 'A ' * (times - 1) + 'F))')
        e('(good)'); e('(good)')
        e('(define-syntax G (syntax-rules () ((_ ks v ...) (define-syntax bad (syntax-rules () ((_ v ... d d) 1))))))')
        e('(A (' + 'A ' * (times - 1) + 'G))')
        e('(define-syntax H (syntax-rules () ((_ ks v ...) (define-syntax take (syntax-rules () ((_ v ... d) d))))))')
        e('(A (' + 'A ' * (times - 1) + 'H))')
        e('(A (' + 'A ' * (times - 1) + 'take) 5)')
        e('(A (' + 'A ' * (times - 1) + 'take) 5 6)')
for n, k in ((3, 3), (20, 40), (215, 52), (210, 95), (330, 60), (199, 99), (200, 100), (600, 32)):
    new()
    ids = ' '.join(names(n))
    rows = '(' * min(k, 55) + '(' + ids + ')' + ' ...)' * min(k, 55)
    if k > 55:
        e('(define-syntax w (syntax-rules () ((_ () r) (w1 r)) ((_ (x . y) r) (w y (r (... ...))))))')
        e('(define-syntax w1 (syntax-rules () ((_ r) (define-syntax m (syntax-rules () ((_ r) \'(r r)))))))')
        e('(w (' + '1 ' * k + ') (' + ids + '))')
        e('(define-syntax u (syntax-rules () ((_ () r) (m r)) ((_ (x . y) r) (u y (r)))))')
        e('(u (' + '1 ' * k + ') (' + '1 ' * n + '))')
        e('(u (' + '1 ' * (k - 1) + ') ())')
    else:
        e('(define-syntax m (syntax-rules () ((_ ' + rows + ") '(" + rows + ' ' + rows + '))))')
        e('(m ' + '(' * (k + 1) + '1 ' * n + ')' * (k + 1) + ')')
        e('(m ' + '(' * k + ')' * k + ')')
        e('(m ' + '(' * (k - 1) + '(' + '1 ' * n + ')(' + '1 ' * n + ')' + ')' * (k - 1) + ')')
for t in ("((_ %s 2) 'two) ((_ . r) 'other)", "((_ %s a a) 1)", "((_ (%s x) ...) '(x ...))", "((_ a ...) '(%s a))", "((_ x ...) '((%s x) ...))",
          "((_ (x ...) ...) '((%s x) ... ...))", "((_ (x ...) ...) '(((%s x) ...) ...))", "((_ ((%s x) ...) ...) '(x ... ...))", "((_ x ...) '((%s) ...))"):
    new()
    e('(define-syntax m (syntax-rules () ' + t % big + '))')
    e('(m)'); e('(m 1)'); e('(m ())'); e('(m () ())'); e('(m (1) ())'); e('(m ' + big + ' 1)'); e('(m ' + big + ' 2)'); e('(m (' + big + ' 1))')
for k in (3, 100, 500):
    new()
    e("(define-syntax m (syntax-rules () ((_ (x ...) ...) '(" + 'x ... ... ' * k + '))))')
    e('(m () ())'); e('(m ' + '()' * 2900 + ')'); e('(m (1) ' + '()' * 100 + ')')
# expanded in vain: nothing that WORK does not pay for may stay
new()
e('(define-syntax r (syntax-rules () ((_ k) (k ' + 'x ' * 2900 + '))))')
e('(define-syntax m (syntax-rules () ((_ . r) ' + '(' * 55 + '(if)' + ' . r)' * 55 + ')))')
for i in range(12): e('(r m)'); e('(+ 1 %d)' % i)
new()
e('(define-syntax r (syntax-rules () ((_ k) (k ' + 'x ' * 2900 + '))))')
e('(define-syntax m (syntax-rules () ((_ . r) (lambda () ' + '(begin ' * 55 + '(if)' + ' . r)' * 55 + '))))')
for i in range(12): e('(r m)'); e('(+ 1 %d)' % i)
new()
e('(define-syntax l (syntax-rules () ((_ . r) (begin ' + '(define-library (l) (export . r) (begin 1) . d)' * 60 + '))))'.replace(' . d', ''))
e('(define-syntax l (syntax-rules () ((_ . r) (begin ' + '(define-library (l) (export . r) (begin 1))' * 60 + '))))')
n = names(1000)
e('(define-syntax s (syntax-rules () ((_ k) (k ' + ' '.join(n) + '))))')
for i in range(12): e('(s l)'); e('(import (only (l) ab cd))'); e('(+ 1 %d)' % i)
e('(define-syntax p (syntax-rules () ((_ . r) (import (only (prefix (l) zz) . r)))))')
e('(s p)')
e('(define-syntax p (syntax-rules () ((_ . r) (import (prefix (except (l) . r) zz)))))')
e('(s p)')
e('(define-syntax p (syntax-rules () ((_ x ...) (import (rename (l) (x zz) ...)))))')
e('(s p)')
e('(define-library (t) . #0=((begin) . #1=((begin) (export) (begin))))')
new()
e('(define-syntax b (syntax-rules () ((_ . r) (begin ' + '(define-library (l) . r)' * 100 + '))))')
for i in range(8): e('(b ' + '(begin)' * 600 + ')'); e('(+ 1 %d)' % i)
out.close()
