import java.util.Random;

/** No call ever throws or fails to end: texts that were damaged at random, and arguments of every kind. */
public final class SturdyTest {
    private static final String[] TEXTS = {
        "int fib(int k) { if (k < 2) return k; return fib(k - 1) + fib(k - 2); } int r; int main() { r = fib(7); return r; }",
        "struct P { char c; int v; char z[3]; struct P *n; }; struct P p = {'x', 7}; struct P q; int main() { q = p; q.n = &p; q.n->v += 5; return p.v; }",
        "enum { A, B = 4, C }; int a[3][2] = {{1, 2}, {3}}; char *t[] = {\"ab\", \"c\\n\"}; char s[] = \"hey\"; unsigned u = 0xffffffff; "
            + "int g(char *p, int n) { for (int i = 0; p[i]; i++) { if (i == n) break; put(p[i]); } return n; } "
            + "int main() { int i = 0; do { switch (i) { case A: g(t[0], 1); break; case 1: i += B; continue; default: g(s, i << 2); } } while (++i < 9); "
            + "return *(&a[1][0] - 1) ? (u >> 3, i % 3) : sizeof (struct X *) - ~i; }",
        "void f(int *p, unsigned n) { while (n--) *p++ ^= n | 3; } int b[9]; int main() { f(b, 9); int *q = b + 8; q -= 2; char c = -1; c--; c <<= 1; "
            + "halt(q - b + c / 2 + !b[1] && b[2] != 5); }"};
    private static final String[] PIECES = {"(", ")", "[", "]", "{", "}", ";", ",", "?", ":", ".", "->", "++", "--", "+", "-", "*", "/", "%", "~", "!",
        "&", "|", "^", "<<", ">>", "<", "==", "&&", "||", "=", "+=", "int ", "char ", "unsigned ", "void ", "struct P ", "enum ", "if (", "else ",
        "while (", "do ", "for (", "switch (", "case ", "default:", "break;", "continue;", "return ", "sizeof ", "0", "1", "2147483648", "'a'", "\"s\"", "x",
        "main", "get()", "put(", "halt(", "a", "p", "q", " ", "/*", "*/", "//", "\n", "\u0001"};

    public static void main(String[] args) {
        Bench b = new Bench();
        Random random = new Random(12345);
        int right = 0;
        for (int run = 0; run < 6000; run++) {
            WordFoundry x = new WordFoundry();
            String text = TEXTS[random.nextInt(TEXTS.length)];
            int changes = random.nextInt(5);
            for (int k = 0; k < changes; k++) {
                text = damaged(text, random);
            }
            int fault = Bench.cast(x, text);
            boolean told = fault == 0 || (fault & 15) >= 1 && (fault & 15) <= 12 && fault >> 4 <= text.length();
            b.due("a fault has a number and a place: " + text, told, true);
            b.due("there is a program or a fault", x.look(1), fault == 0 ? 1 : 0);
            right += fault == 0 ? 1 : 0;
            ask(x, random);
            x.begin(1024 + 4 * random.nextInt(20));
            for (int k = 0; k < 4; k++) {
                x.go(random.nextInt(40));
                ask(x, random);
            }
        }
        b.due("some texts were right", right > 500, true);
        b.close();
    }

    private static String damaged(String text, Random random) {
        int at = random.nextInt(text.length() + 1);
        int to = Math.min(text.length(), at + random.nextInt(4));
        switch (random.nextInt(4)) {
            case 0: return text.substring(0, at) + text.substring(to);
            case 1: return text.substring(0, at) + PIECES[random.nextInt(PIECES.length)] + text.substring(to);
            case 2: return text.substring(0, at) + PIECES[random.nextInt(PIECES.length)].repeat(random.nextInt(40)) + text.substring(at);
            default: return text.substring(0, at) + PIECES[random.nextInt(PIECES.length)] + text.substring(at);
        }
    }

    private static int any(Random random) {
        switch (random.nextInt(4)) {
            case 0: return random.nextInt();
            case 1: return random.nextInt(2100) - 10;
            default: return random.nextInt(16) - 2;
        }
    }

    private static void ask(WordFoundry x, Random random) {
        for (int k = 0; k < 5; k++) {
            x.look(any(random));
            x.peek(any(random));
            x.out(any(random));
            x.thing(any(random), any(random));
            x.local(any(random), any(random), any(random));
            x.layout(any(random), any(random));
            x.frame(any(random), any(random));
        }
        if (random.nextInt(8) == 0) {
            x.feed(any(random), random.nextLong(), random.nextLong(), random.nextLong());
            x.supply();
            x.begin(any(random));
            x.go(any(random));
        }
    }
}
