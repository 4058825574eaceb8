# makes a copy of the program in which each index is looked at ahead of its mask, and in which what would be full throws:
# checked.py FROM TO (tests and cases that pass with the copy have filled no row)
import re, sys
s = open(sys.argv[1]).read()
MASKS = (r'(STACK|ROWS|NAMES|ROUNDS|KNOWN|FOUND|INDEX|CODES|LABELS|SCRATCH - 1|CALLS - 1|FRAMES - 1|words\.length - 1'
         r'|Room\.SCRATCH - 1|Room\.SIZE - 1|Scribe\.STACK|Numerals\.INDEX|Reader\.INDEX|511|255|127|63)')
for _ in range(3):  # an index within an index
    s = re.sub(r'\[((?:[^\[\]]|\[[^\[\]]*\])*?) & \(?' + MASKS + r'\)?\]',
               lambda m: '[SchemeHouse.looked(%s, %s)]' % (m.group(1), m.group(2)), s)
s = s.replace('    private void put(int four) {', '''    static int looked(int i, int mask) {
        if (i < 0 || i > mask) throw new RuntimeException("index " + i + " of " + mask);
        return i;
    }

    private void put(int four) {''', 1)
for full in ('if (n < 0 || n > SIZE - top) {', 'if (i > FRAMES - 16) {'):
    s = s.replace(full, full + ' if (top >= 0) throw new RuntimeException("full");')
s = s.replace('if (colour != NEW || top > STACK - 4) return;',
              'if (top > STACK - 4) throw new RuntimeException("full");\n            if (colour != NEW) return;')
open(sys.argv[2], 'w').write(s)
print(s.count('SchemeHouse.looked('), 'indexes')
