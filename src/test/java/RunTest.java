/** Promises 5, 6, 7 and 9, Terms 5: begin, go, OUTPUT, MEMORY, ROUNDS and TRAPS. */
public final class RunTest {
    public static void main(String[] args) {
        Bench b = new Bench();
        begins(b);
        goes(b);
        rounds(b);
        output(b);
        memory(b);
        values(b);
        ranks(b);
        control(b);
        order(b);
        addressTraps(b);
        alignedTraps(b);
        zeroTraps(b);
        structCopies(b);
        reads(b);
        deep(b);
        atTheRight(b);
        longTexts(b);
        truths(b);
        loops(b);
        offsets(b);
        elements(b);
        manyArguments(b);
        waiting(b);
        b.close();
    }

    private static void begins(Bench b) {
        WordFoundry x = b.fresh();
        Bench.cast(x, "int a = 7; char *t = \"hi\"; int main() { int z[64]; a = 9; put('x'); z[0] = 5; return a; }");
        int[] wrong = {0, -4, 1020, 1022, 1025, 1026, 1027, 65540, 65537, Integer.MAX_VALUE, Integer.MIN_VALUE};
        for (int size : wrong) {
            b.due("begin " + size, x.begin(size), false);
        }
        b.due("still cast", x.look(1), 1);
        b.due("begin 1024", x.begin(1024), true);
        b.due("stands", x.look(1), 2);
        b.due("frames", x.look(6), 1);
        b.due("rounds", x.look(4), 0);
        b.due("size", x.look(12), 1024);
        b.due("least SP", x.look(7), 1024 - 256);
        b.due("a", x.peek(64), 7);
        b.due("t", x.peek(68), 72);
        b.due("h", x.peek(72), 'h');
        b.due("0 behind", x.peek(74), 0);
        b.due("go", x.go(1), 1);
        b.due("a later", x.peek(64), 9);
        b.due("sent", x.look(5), 1);
        b.due("wrong begin does nothing", x.begin(3), false);
        b.due("still ended", x.look(1), 3);
        b.due("begin anew", x.begin(65536), true);
        b.due("a anew", x.peek(64), 7);
        b.due("no OUTPUT", x.look(5), 0);
        b.due("no out", x.out(0), -1);
        b.due("result", x.look(2), 0);
        b.due("in a larger MEMORY", x.look(7), 65536 - 256);
        x.go(1);
        x.begin(1024);
        b.due("stale bytes are gone", x.peek(768), 0);
        b.due("a fault takes the program", Bench.cast(x, "int"), 16 * 3 + 2);
        b.due("no program", x.begin(1024), false);
        b.due("no memory", x.peek(64), -1);
        fit(b, 1024 - 64, true);
        fit(b, 1024 - 60, false);
        WordFoundry y = b.fresh();
        Bench.cast(y, "char a[960]; int main() { int b; }");
        b.due("no room for a FRAME", y.begin(1024), false);
        b.due("nothing was done", y.look(12), 0);
        b.due("room for it", y.begin(1028), true);
        Bench.cast(y, "char a[2000]; int main() { }");
        b.due("no room for DATA", y.begin(1024), false);
    }

    private static void fit(Bench b, int bytes, boolean fits) {
        WordFoundry x = b.fresh();
        Bench.cast(x, "int main() { char a[" + bytes + "]; }");
        b.due("main's FRAME of " + bytes, x.begin(1024), fits);
    }

    private static void goes(Bench b) {
        WordFoundry x = b.fresh();
        b.due("go without a program", x.go(1), -1);
        Bench.cast(x, "int main() { while (1) put('a'); }");
        b.due("go ahead of begin", x.go(1), -1);
        x.begin(1024);
        int[] wrong = {-1, 1001, Integer.MAX_VALUE, Integer.MIN_VALUE};
        for (int n : wrong) {
            b.due("go " + n, x.go(n), -1);
        }
        b.due("go 0", x.go(0), 0);
        b.due("go 0 does nothing", x.look(5), 0);
        b.due("go 1", x.go(1), 1);
        b.due("main's ROUND only", x.look(5), 0);
        b.due("go 3", x.go(3), 3);
        b.due("three bodies", x.look(5), 3);
        b.due("rounds", x.look(4), 4);
        b.due("go 0 again", x.go(0), 0);
        b.due("go 1000", x.go(1000), 1000);
        b.due("rounds", x.look(4), 1004);
        b.due("it stands", x.look(1), 2);
        Bench.cast(x, "int main() { return 5; }");
        x.begin(1024);
        b.due("it ends", x.go(7), 1);
        b.due("none stands", x.go(7), -1);
        b.due("ended with", x.look(2), 5);
        b.due("no trap's place", x.look(3), -1);
        b.due("rounds stay", x.look(4), 1);
        b.due("no frames", x.look(6), 0);
        b.due("least SP stays", x.look(7), 1024);
        Bench.cast(x, "int main() { *(int *) 0 = 1; }");
        x.begin(1024);
        b.due("it traps", x.go(7), 1);
        b.due("none stands", x.go(7), -1);
        b.due("frames stay", x.look(6), 1);
    }

    /** How many ROUNDS a text has in all. */
    private static void rounds(Bench b, int count, String text) {
        WordFoundry x = b.fresh();
        b.due(text, Bench.cast(x, text), 0);
        x.begin(1024);
        Bench.run(x);
        b.due("rounds of " + text, x.look(4), count);
    }

    private static void rounds(Bench b) {
        rounds(b, 1, "int main() { }");
        rounds(b, 1, "int main() { { ; } if (1) ; switch (1) { case 1: ; } put(1); get(); }");
        rounds(b, 1, "int main() { while (0) ; for (; 0; ) ; }");
        rounds(b, 2, "int main() { do ; while (0); }");
        rounds(b, 4, "int main() { int i = 3; while (i--) ; }");
        rounds(b, 4, "int main() { for (int i = 0; i < 3; i++) if (i) continue; }");
        rounds(b, 3, "int main() { for (int i = 0; ; i++) if (i) break; }");
        rounds(b, 4, "int f() { } int main() { f(); f(); f(); }");
        rounds(b, 2, "int f() { halt(1); } int main() { f(); f(); f(); }");
        rounds(b, 1, "int f() { } int main() { sizeof f(); 0 && f(); 1 || f(); 1 ? 0 : f(); }");
        rounds(b, 10, "int main() { int i = 3; do { int k = 2; do ; while (--k); } while (--i); }");
    }

    private static void output(Bench b) {
        WordFoundry x = b.fresh();
        Bench.cast(x, "int main() { for (int i = 0; i < 5000; i++) put(i); put(-1); put(0x1234); }");
        x.begin(1024);
        Bench.run(x);
        b.due("sent", x.look(5), 5002);
        b.due("out -1", x.out(-1), -1);
        b.due("out 0", x.out(0), 0);
        b.due("out 255", x.out(255), 255);
        b.due("out 256", x.out(256), 0);
        b.due("out 4095", x.out(4095), 255);
        b.due("out 4096", x.out(4096), -1);
        b.due("out 5000", x.out(5000), -1);
        Bench.cast(x, "int main() { put(300); put(-2); }");
        b.due("gone with a cast", x.out(0), -1);
        b.due("none sent", x.look(5), 0);
        x.begin(1024);
        b.due("ahead of the ROUND", x.out(0), -1);
        x.go(1);
        b.due("its lowest byte", x.out(0), 44);
        b.due("of -2", x.out(1), 254);
        b.due("no third one", x.out(2), -1);
        b.ends(-1, "int main() { return get(); }", "");
        b.ends(255, "int main() { return get(); }", "\u00ff");
        b.ends(3 * 256 + 2, "int main() { int a = get(); int b = get(); return a + b * 256 + (get() + 1); }", "\u0002\u0003");
        b.ends(-9, "int f() { halt(-9); return 1; } int main() { f(); put(1); return 2; }");
        b.ends(0, "void main() { }");
        b.ends(0, "int main() { if (get() == 5) return 1; }");
    }

    private static void memory(Bench b) {
        WordFoundry x = b.fresh();
        Bench.cast(x, "char a = 1; int b = 0x01020304; char c[3] = {9, 8}; unsigned d = 0xfffefdfc; char e[] = \"xy\"; "
            + "char *s = \"q\"; int *p = &b; int main() { char m = 7; int n = 0x11223344; char *t = \"rs\"; return t - s; }");
        x.begin(1024);
        int[] due = {1, 0, 0, 0, 4, 3, 2, 1, 9, 8, 0, 0, 0xfc, 0xfd, 0xfe, 0xff, 'x', 'y', 0, 0, 92, 0, 0, 0, 68, 0, 0, 0, 'q', 0, 'r', 's', 0, 0};
        for (int i = 0; i < due.length; i++) {
            b.due("peek " + (64 + i), x.peek(64 + i), due[i]);
        }
        b.due("peek -1", x.peek(-1), -1);
        b.due("peek 0", x.peek(0), 0);
        b.due("peek 63", x.peek(63), 0);
        b.due("peek 1023", x.peek(1023), 0);
        b.due("peek 1024", x.peek(1024), -1);
        b.due("peek at the least", x.peek(Integer.MIN_VALUE), -1);
        b.due("end of DATA", x.look(8), 100);
        x.go(1);
        b.due("m", x.peek(1012), 7);
        b.due("n 0", x.peek(1016), 0x44);
        b.due("n 3", x.peek(1019), 0x11);
        b.due("t", x.peek(1020), 94);
        b.due("t - s", x.look(2), 2);
        Bench.cast(x, "int a; int *p[2] = {&a}; char *q[2] = {\"z\"}; char c[3] = {1}; char d[4] = \"v\"; struct S { char c; int v; }; struct S s[2] = {{1, 2}}; int main() { }");
        x.begin(1024);
        int[] told = {0, 0, 0, 0, 64, 0, 0, 0, 0, 0, 0, 0, 108, 0, 0, 0, 0, 0, 0, 0, 1, 0, 0, 'v', 0, 0, 0, 0, 1, 0, 0, 0, 2, 0, 0, 0, 0, 0, 0, 0, 0, 0, 0, 0, 'z', 0};
        for (int i = 0; i < told.length; i++) {
            b.due("told " + (64 + i), x.peek(64 + i), told[i]);
        }
        // What isn't told lies as it was left.
        b.ends(77, "int f() { int a = 77; return a; } int g() { int b; return b; } int main() { f(); return g(); }");
        b.ends(0, "int g() { int b; return b; } int main() { return g(); }");
        b.ends(3, "int main() { int r = 0; for (int i = 0; i < 3; i++) { int k = 0; k++; r += k; } return r; }");
        b.ends(6, "int main() { int r = 0; for (int i = 0; i < 3; i++) { int k; if (!i) k = 0; k++; r += k; } return r; }");
        b.ends(5, "int main() { int r = 5; switch (1) { int k = 9; case 1: r += k; } return r; }");
    }

    private static void values(Bench b) {
        b.ends(44, "int main() { char c = 300; return c; }");
        b.ends(44, "int main() { char c; return c = 300; }");
        b.ends(255, "int main() { char c = 0; return --c; }");
        b.ends(0, "int main() { char c = 255; return ++c; }");
        b.ends(255, "int main() { char c = 255; return c++; }");
        b.ends(4, "int main() { char c = 250; c += 10; return c; }");
        b.ends(44, "char f() { return 300; } int main() { return f(); }");
        b.ends(44, "int f(char c) { return c; } int main() { return f(300); }");
        b.ends(1, "int main() { unsigned u = 1; int i = -1; return i > u && i / u == 0xffffffff && (i >> 1) == -1 && (u - 2) >> 31 == 1; }");
        b.ends(1, "int main() { int i = -6; unsigned u = 4; i /= u; return i == 0xfffffffa / 4; }");
        b.ends(-3, "int main() { int i = -6; unsigned u = 1; i >>= u; return i; }");
        b.ends(12, "int a[5]; int main() { int *p = a; p++; p += 3; p -= 1; return (char *) p - (char *) a; }");
        b.ends(3, "int a[5]; int main() { int *p = &a[4]; return p - (a + 1); }");
        String moved = "int a[9]; struct A { char c[2100]; }; int main() { int i = 3; char *base = (char *) a; int *p = a; struct A *f = (struct A *) a; ";
        b.ends(12, moved + "return (char *) (p + i) - base; }");
        b.ends(12, moved + "return (char *) (i + p) - base; }");
        b.ends(-12, moved + "return (char *) (p - i) - base; }");
        b.ends(12, moved + "p += i; return (char *) p - base; }");
        b.ends(-12, moved + "p -= i; return (char *) p - base; }");
        b.ends(8, moved + "return (char *) (2 + p) - base; }");
        b.ends(6300, moved + "f += i; return (char *) f - base; }");
        b.ends(2100, moved + "f++; return (char *) f - base; }");
        b.ends(-2100, moved + "--f; return (char *) f - base; }");
        b.ends(4200, moved + "return (char *) (f + 2) - base; }");
        b.ends(-8400, moved + "f -= 4; return (char *) f - base; }");
        for (int by : new int[] {2046, 2047, 2048, 2049, -2047, -2048, -2049, -2050, 65536, Integer.MAX_VALUE, Integer.MIN_VALUE + 1}) {
            String made = "int main() { int k = 9; ";
            b.ends(9 + by, made + "return k + " + by + "; }");
            b.ends(9 - by, made + "k -= " + by + "; return k; }");
            b.ends(9 & by | 256, made + "return k & " + by + " | 256; }");
            b.ends((9 ^ by) + 1, made + "k ^= " + by + "; return k + 1; }");
            b.ends(9 | by, made + "k |= " + by + "; return k; }");
            b.ends(9 < by ? 1 : 0, made + "return k < " + by + "; }");
            b.ends(1, made + "k = " + by + "; return k == " + by + "; }");
            b.ends(0, made + "k = " + by + "; return k != " + by + "; }");
            b.ends(9 < by ? 4 : 5, made + "if (k < " + by + ") return 4; return 5; }");
        }
        String signs = "int main() { int i = -1; unsigned u = 3; int z = 0; ";
        b.ends(0, signs + "return i < (unsigned) 5; }");
        b.ends(1, signs + "return u < -1; }");
        b.ends(1, signs + "return u < (unsigned) -1; }");
        b.ends(0, signs + "return u < -1 + 1; }");
        b.ends(21, signs + "int r = 0; if (i < (unsigned) 5) r += 1; if (u < -1) r += 4; if (i > u) r += 16; if (u >= i) r += 32; if (i <= u) r += 64; return r + 1; }");
        b.ends(31, signs + "int r = 0; if (i < z) r += 1; if (z > i) r += 2; if (i <= z) r += 4; if (z >= i) r += 8; if (i != z) r += 16; if (i == z) r += 32; return r; }");
        b.ends(-1, signs + "return i >> 31; }");
        b.ends(1, signs + "return (unsigned) i >> 31; }");
        b.ends(-1, signs + "i >>= 33; return i; }");
        b.ends(-2, signs + "return i << 33; }");
        b.ends(63, signs + "int r = 0; while (i < 5 && u > 0) { r = r * 2 + 1; i++; u -= i > 8; } return r; }");
        StringBuilder many = new StringBuilder();
        for (int k = 0; k < 40; k++) {
            many.append("int f").append(k).append("() { return ").append(k == 0 ? "7" : "f" + (k - 1) + "() + 1").append("; } ");
        }
        b.ends(46, many + "int main() { return f39(); }");
        b.ends(-3, "int a[5]; int main() { return &a[1] - &a[4]; }");
        b.ends(-1, "struct A { int a[3]; }; struct A s[4]; int main() { return (struct A *) ((char *) s - 23) - s; }");
        b.ends(1, "int m[3][4]; int main() { m[2][1] = 5; return *(*(m + 2) + 1) == 5 && &m[1] - &m[0] == 1 && (char *) &m[1] - (char *) m == 16; }");
        b.ends(1, "int main() { int *p = (int *) 0x80000000; return p > (int *) 4 && p - (int *) 4 == 536870911 && (int *) 4 - p == -536870911; }");
        b.ends(7, "struct A { struct A *n; int v; }; struct A a, c; int main() { a.n = &c; c.n = &a; a.n->n->n->v = 7; return c.v; }");
        b.ends('b', "int main() { return \"abc\"[1]; }");
        b.ends(3, "int main() { int a = 1, b = 2; int *p = &a; int **q = &p; **q += b; return a; }");
        b.ends(2, "int f(int a[], int b[2][2]) { return a[1] + b[1][0]; } int x[2] = {0, 2}; int y[2][2]; int main() { return f(x, y); }");
        b.ends(9, "int main() { char far[3000]; int a = 4; int c = 5; return a + c; }");
        b.ends(6, "char far[1000]; struct A { char f[2500]; int v; }; struct A a; struct A *p = &a; int main() { a.v = 2; p->v += 4; return a.v; }");
        b.ends(1, "int main() { return !0 == 1 && !5 == 0 && -(-5) == 5 && ~~7 == 7 && !\"a\" == 0; }");
        b.ends(36, "int f(int a, int b, int c, int d, int e, int g, int h, int i) { return a + b + c + d + e + g + h + i; } int main() { return f(1, 2, 3, 4, 5, 6, 7, 8); }");
        b.ends(120, "int f(unsigned n) { return n ? n * f(n - 1) : 1; } int main() { return f(5); }");
    }

    /** E's in which another rank, or another order within one, would tell: as constants, and with variables. */
    private static void ranks(Bench b) {
        String[] made = {"two || zero && zero", "one && two | zero", "one | three ^ one", "three ^ three & one", "two & two == two", "two == two < three",
            "five < one << three", "one << two + one", "two + three * two", "-two + three", "~one + two", "!zero + two", "seven - two - one", "seven / two / two",
            "seven % four * two", "two * seven % four", "one << two << one", "64 >> two >> one", "three > two > one", "two == two == one", "seven - two + one",
            "zero ? one : zero ? two : three", "(one, two, three)", "five < five", "five <= five", "five > five", "five >= five", "two < three", "three < two",
            "-one < one", "(one < two) + (two < three) + (one == one) + (one != two) + (three > two) + (two >= two) + (one <= one)", "(one && two) + (zero || three)",
            "five & six | one", "six ^ three | eight", "one + two << one", "eight >> one + one", "two < one == zero", "!two == zero", "-one * two", "two - -one"};
        int[] due = {1, 1, 3, 2, 0, 0, 1, 8, 8, 1, 0, 3, 4, 1, 6, 2, 8, 8, 0, 1, 6, 3, 3, 0, 1, 0, 1, 1, 0, 1, 7, 2, 5, 13, 6, 2, 1, 1, -2, 3};
        String[] names = {"zero", "one", "two", "three", "four", "five", "six", "seven", "eight"};
        StringBuilder variables = new StringBuilder("int main() { int zero = 0");
        StringBuilder constants = new StringBuilder("enum { zero");
        for (int k = 1; k < names.length; k++) {
            variables.append(", ").append(names[k]).append(" = ").append(k);
            constants.append(", ").append(names[k]);
        }
        for (int k = 0; k < made.length; k++) {
            b.ends(due[k], variables + "; return " + made[k] + "; }");
            b.ends(due[k], constants + " }; int main() { return " + made[k] + "; }");
        }
    }

    private static void control(Bench b) {
        b.ends(15, "int main() { int r = 0; switch (2) { case 1: r += 1; case 2: r += 5; case 3: r += 10; break; default: r += 100; } return r; }");
        b.ends(100, "int main() { int r = 0; switch (9) { case 1: r += 1; break; default: r += 100; } return r; }");
        b.ends(101, "int main() { int r = 0; switch (9) { default: r += 100; case 1: r += 1; } return r; }");
        b.ends(0, "int main() { int r = 0; switch (9) { r = 5; case 1: r += 1; } return r; }");
        b.ends(4, "int main() { unsigned u = 0xffffffff; switch (u) { case -1: return 4; } return 5; }");
        b.ends(3, "int main() { int i = 0; while (1) { switch (i) { case 3: return i; default: i++; continue; } i = 50; } }");
        b.ends(6, "int main() { int i = 0; int n = 0; do { i++; if (i == 2) continue; n += i; if (i == 3) break; } while (i < 9); return n + 2; }");
        b.ends(5, "int main() { int a = 0; if (1) if (0) a = 1; else a = 5; return a; }");
        b.ends(13, "int main() { int r = 0; for (int i = 0; i < 10; i++) { if (i % 2) continue; if (i > 6) break; r += i; } return r + 1; }");
        b.ends(2, "int main() { int i; for (i = 0; i < 5; i++) { for (;;) break; if (i == 2) return i; } return 9; }");
    }

    /** What is worked out first shows in what is put. */
    private static void order(Bench b) {
        String f = "int z; int a[9]; int *p = &z; int f(int n) { put(n); return n; } int g(int a, int b, int c) { return a * 100 + b * 10 + c; } int main() { int x = 0; ";
        sends(b, "123", f + "g(f('1'), f('2'), f('3')); }");
        sends(b, "12", f + "f('1') - f('2'); }");
        sends(b, "12", f + "a[f('1') - '1'] = f('2'); }");
        sends(b, "1", f + "f('1') - '1' && f('2'); }");
        sends(b, "1", f + "f('1') || f('2'); }");
        sends(b, "13", f + "f('1') - '1' ? f('2') : f('3'); }");
        sends(b, "12", f + "f('1'), f('2'); }");
        sends(b, "12", f + "a[f('1') - '1'] += f('2'); }");
        // The left one of op= is read behind the right side.
        b.ends(30, f + "x += (x = 10, 20); return x; }");
        b.ends(7, f + "*p += (p = &x, z = 3, 4); return z; }");
        // Which variable it is, is known ahead of the right side.
        b.ends(5, f + "int i = 0; a[i] = (i = 1, 5); return a[0]; }");
        b.ends(1, f + "int i = 1; return i++ * 10 + i-- - i == 11; }");
        b.ends(123, f + "return g(++x, ++x, ++x); }");
    }

    private static void sends(Bench b, String output, String text) {
        WordFoundry x = b.fresh();
        b.due(text, Bench.cast(x, text), 0);
        x.begin(4096);
        Bench.run(x);
        b.due("state " + text, x.look(1), 3);
        b.due("sent " + text, x.look(5), output.length());
        for (int i = 0; i < output.length(); i++) {
            b.due("out " + i + " of " + text, x.out(i), output.charAt(i));
        }
    }

    private static void addressTraps(Bench b) {
        for (int address : new int[] {0, 60, 63, 61, 4093, 4094, 4096, 4097, -1, -4, Integer.MIN_VALUE, Integer.MAX_VALUE}) {
            String pointer = "int *p = (int *) " + (address < 0 ? Long.toString(address & 0xffffffffL) : address) + "; ";
            b.traps(2, "int main() { " + pointer + "@*p; }");
            b.traps(2, "int main() { " + pointer + "@*p = 1; }");
            b.traps(2, "int main() { " + pointer + "p@[0]++; }");
        }
        b.ends(0, "int main() { return *(int *) 64 + *(char *) 64 + *(char *) 4095 + *(int *) 4092; }");
        b.traps(2, "int main() { return @*(char *) 63; }");
        b.traps(2, "int main() { return @*(char *) 4096; }");
        b.traps(2, "struct A { int a; int c; }; struct A *n; int main() { return 1 + n@->c; }");
        b.traps(2, "struct A { int a; int c; }; struct A *n; int main() { return 1 + (*n)@.c; }");
        b.traps(2, "struct A { int a; int c[3]; }; struct A *n; int main() { return n->c@[2]; }");
        b.traps(2, "struct B { int x; }; struct A { int a; struct B c; }; struct A *n; int main() { n->c@.x = 2; }");
        b.traps(2, "int **q; int main() { **q = 5; }".replace("**q = 5", "*@*q = 5"));
        b.traps(2, "int a[3]; int main() { int i = 1010; a@[i] = 5; }");
        b.traps(2, "int a[3]; int main() { int i = 0x40000000; i = 3 * i; a@[i - 10] = 5; }");
        b.traps(2, "int m[2][2]; int main() { m[1]@[-100]; }");
        b.traps(2, "int main() { int *p = 0; (@*p)++; }");
        b.traps(2, "int main() { int *p = 0; --@*p; }");
        b.traps(2, "int main() { int *p = 0; @*p += 1; }");
        b.traps(2, "int main() { return @*\"abc\" + \"abc\"@[-100]; }".replace("@*\"", "*\""));
        b.traps(2, "int main() { if (@*(int *) 0) ; }");
        b.traps(2, "void f(int a) { } int main() { f(@*(int *) 0); }");
        // The right side comes ahead of the write.
        b.traps(1, "int main() { int *p = 0; int z = 0; *p = 1 @/ z; }");
        b.traps(2, "int main() { int *p = 0; int *q = 0; *p = @*q; }");
        b.traps(2, "int main() { int *p = 0; @*p /= 0; }");
        b.traps(2, "int main() { int *p = 0; int z = 0; z = 5; @*p = z; }");
    }

    private static void alignedTraps(Bench b) {
        b.traps(3, "int a[4]; int main() { return @*(int *) ((char *) a + 1); }");
        b.traps(3, "int a[4]; int main() { @*(int *) ((char *) a + 2) = 1; }");
        b.traps(3, "int a[4]; int main() { int **p = (int **) 67; p@[0] = 0; }");
        b.traps(3, "int main() { return @*(int *) 4091; }");
        b.traps(2, "int main() { return @*(int *) 4095; }");
        b.traps(2, "int main() { return @*(int *) 62; }");
        b.traps(3, "struct A { char c; int v; }; int main() { return ((struct A *) 66)@->v; }");
        b.ends(0, "struct A { char c; int v; }; int main() { return ((struct A *) 66)->c + *(char *) 67; }");
        b.traps(3, "int main() { int x = 5; x += @*(int *) 65; }");
    }

    private static void zeroTraps(Bench b) {
        b.traps(1, "int main() { int z = 0; return 5 @/ z; }");
        b.traps(1, "int main() { unsigned z = 0; return 5 @% z; }");
        b.traps(1, "int main() { int x = 5; x @/= 0; }");
        b.traps(1, "int main() { char x = 5; char y = 0; x @%= y; }");
        b.traps(1, "int main() { int x = 5; return x @/ 0 + 1; }");
        b.traps(1, "int main() { int x = 5; return x / 1 @% 0; }");
        WordFoundry x = b.fresh();
        Bench.cast(x, "int a = 5; int main() { a = 6; a /= 0; a = 7; }");
        x.begin(1024);
        b.due("rounds", x.go(9), 1);
        b.due("nothing was written", x.peek(64), 6);
        b.due("state", x.look(1), 4);
        b.due("place", x.look(3), 33);
    }

    private static void structCopies(Bench b) {
        String s = "struct A { char c; int v; }; struct B { char c[5]; }; struct A *n; struct A a, d; struct B e, *m; int x[9]; int main() { ";
        b.ends(9, s + "a.v = 7; a.c = 2; d = a; return d.v + d.c; }");
        b.traps(2, s + "a = @*n; }");
        b.traps(2, s + "@*n = a; }");
        b.traps(2, s + "n[0] = @*n; }");
        b.traps(2, s + "n@[0] = a; }");
        b.traps(3, s + "n = (struct A *) 65; a = @*n; }");
        b.traps(3, s + "n = (struct A *) 65; @*n = a; }");
        b.traps(2, s + "n = (struct A *) 4092; a = @*n; }");
        b.traps(2, s + "n = (struct A *) 4091; a = @*n; }");
        b.traps(2, s + "n = (struct A *) 60; a = @*n; }");
        b.traps(2, s + "n = (struct A *) 0xfffffffc; a = @*n; }");
        b.traps(2, s + "a = (1, @*n); }");
        b.traps(2, s + "struct A k = @*n; }");
        b.traps(2, s + "struct A k = (1, 2, n@[3]); }");
        b.traps(2, s + "m = (struct B *) 4092; e = @*m; }");
        b.traps(2, s + "m = (struct B *) 63; e = @*m; }");
        b.traps(2, s + "m = (struct B *) 63; @*m = e; }");
        b.ends(0, s + "m = (struct B *) 64; e = *m; return 0; }");
        b.ends(0, s + "m = (struct B *) 4091; e = *m; return e.c[0]; }");
        b.ends(0, s + "m = (struct B *) 65; e = *m; return 0; }");
        b.ends(6, s + "a.v = 6; struct A k = a; a.v = 1; struct A l = (1, k); return l.v; }");
        // Bytes go from the lowest one on, also where the two lie over one another.
        b.ends(55555, s + "m = &e; e.c[0] = 5; struct B *o = (struct B *) ((char *) m + 1); *o = *m; "
            + "return ((e.c[1] * 10 + e.c[2]) * 10 + e.c[3]) * 100 + e.c[4] * 10 + *((char *) m + 5) ; }");
        b.ends(777, s + "n = (struct A *) x; x[0] = 7; *(struct A *) (x + 1) = *n; return x[0] * 100 + x[1] * 10 + x[2]; }");
        b.ends(321, s + "n = (struct A *) x; x[0] = 9; x[1] = 3; x[2] = 2; *n = *(struct A *) (x + 1); return x[0] * 100 + x[1] * 10 + 1; }");
        WordFoundry x = b.fresh();
        Bench.cast(x, "struct B { int c[8]; }; struct B b; int main() { b.c[0] = 3; *(struct B *) 1000 = b; }");
        x.begin(1024);
        x.go(1);
        b.due("it trapped", x.look(2), 2);
        b.due("nothing was copied", x.peek(1000), 0);
    }

    /** What reads a scalar, and what is an address alone. */
    private static void reads(Bench b) {
        String s = "struct A { int v; int r[3]; }; struct A *n; int *p; int m[2][2]; int main() { ";
        b.traps(2, s + "@*p; }");
        b.traps(2, s + "@*p, 1; }");
        b.traps(2, s + "for (@*p; ; ) ; }");
        b.traps(2, s + "for (; ; @*p) ; }");
        b.traps(2, s + "(void) @*p; }");
        b.traps(2, s + "n@->v; }");
        b.traps(2, s + "1 ? @*p : 0; }");
        b.ends(0, s + "*n; &*p; n->r; (void) *n; *n, 1; &n->v; &p[5]; sizeof *p; m[9]; &m[9][9]; 0 && *p; 1 || *p; for (*n; 0; *n) ; }");
        b.ends(4, s + "return (int) &n->r + (int) n->r - 4; }");
        b.ends(20, s + "return (int) (p + 5); }");
    }

    /** E's whose parts need more registers than there are, and calls in them. */
    private static void deep(Bench b) {
        StringBuilder right = new StringBuilder("1");
        for (int k = 0; k < 24; k++) {
            right.insert(0, "one - (").append(" + one)");
        }
        int due = 1;
        for (int k = 0; k < 24; k++) {
            due = 1 - (due + 1);
        }
        b.ends(due, "int main() { int one = 1; return " + right + "; }");
        StringBuilder calls = new StringBuilder("n");
        for (int k = 0; k < 12; k++) {
            calls.insert(0, "n + n * f(n, 2, ").append(", 4, 5, 6, 7, 8)");
        }
        int value = 1;
        for (int k = 0; k < 12; k++) {
            value = 1 + (1 * 2 + 2 * 3 + value * 5 + 4 * 7 + 5 * 11 + 6 * 13 + 7 * 17 + 8 * 19);
        }
        b.ends(value, "int f(int a, int b, int c, int d, int e, int g, int h, int i) { return a * 2 + b * 3 + c * 5 + d * 7 + e * 11 + g * 13 + h * 17 + i * 19; } "
            + "int main() { int n = 1; return " + calls + "; }");
        String wide = "a | a ^ a & a == a < a << a + a * (";
        b.ends(1, "int x[2]; int main() { int a = 1; int *p = x; return (" + wide.repeat(6) + "p[a] = a" + ")".repeat(6) + ") != 12345 && x[1] == 1; }");
        // Fourteen parts wait while a call uses as many registers itself.
        StringBuilder waiting = new StringBuilder("f(1)");
        StringBuilder within = new StringBuilder("n");
        int sum = 0;
        for (int k = 20; k >= 1; k--) {
            waiting.insert(0, "v * " + k + " + (").append(")");
            within.insert(0, "n * " + (k + 100) + " - (").append(")");
            sum += 3 * k;
        }
        b.ends(sum, "int f(int n) { return (" + within + ") * 0; } int main() { int v = 3; return " + waiting + "; }");
        // What waits in registers outlives a call that uses the same ones.
        b.ends(55, "int f(int n) { return n ? n + (n * 0 + (n * 0 + f(n - 1))) : 0; } int main() { return f(10); }");
    }

    /** Every kind of part behind one, two and many others that wait for it. */
    private static void atTheRight(Bench b) {
        String ahead = "struct S { char c; char d; int v; int r[3]; }; struct S s, *ps = &s; char far[3000]; int g = 4; char gc = 200; int a[5]; int n; "
            + "int f(int x, int y) { n++; return x * 10 + y; } int main() { int i = 3, j = 5; char c = 7; int *p = a; unsigned u = 9; a[1] = 11; a[2] = 22; s.v = 33; s.d = 44; ps->r[1] = 55; ";
        String[] parts = {"i", "g", "gc", "c", "17", "5000", "-i", "~i", "!i", "!c", "i + j", "i - 2000", "i * j", "i / 2", "j % i", "i << 2", "u >> 1", "i < j", "j < i", "i <= 3", "i >= j", "i == 3", "i != 3", "i && j",
            "i && !j", "!i || j", "!i || !j", "i ? j : 8", "!i ? j : 8", "i < j ? 1 : 2", "i > j ? 1 : 2", "i && j ? 4 : 6", "i == j ? g : gc", "(i, j)", "a[1]", "a[i - 1]", "*p", "p[2]", "*(p + 1)", "s.v", "ps->v",
            "s.r[1]", "ps->r[i - 2]", "ps->d", "(char) 300", "(char) (g + 252)", "f(i, j)", "f(f(1, 2), f(3, 4))", "f(i, a[f(0, 2)])", "sizeof i", "&a[3] - p", "p == a", "a[i < j]", "i - (j - (g - c))",
            "i ? j ? 1 : 2 : 3", "(i < j) + (j < i) * 2", "a[1] > a[2] ? a[1] : a[2]", "'x'", "u / 2", "\"abc\"[i - 2]"};
        int[] due = {3, 4, 200, 7, 17, 5000, -3, -4, 0, 0, 8, -1997, 15, 1, 2, 12, 4, 1, 0, 1, 0, 1, 0, 1, 0, 1, 0, 5, 8, 1, 2, 4, 200, 5, 11, 22, 0, 22, 11, 33, 33, 55, 55, 44, 44, 0, 35, 154, 52, 4, 3, 1, 11, -5, 1, 1,
            22, 120, 4, 'b'};
        String[] around = {"#", "1000 - #", "g + (i - #)", "i + (i + (i + (i + (i + (i + (i + (i + (i + (i + (i + (i + (i + (i + (i + #))))))))))))))", "f(1, #)", "f(#, 1)", "a[3] = #", "i ? # : 0", "0 ? 1 : #",
            "(1, #)", "*(p + 4) += #", "f(i, f(j, #))", "j * (i < j ? # : 9)", "1 + (# < 20 ? 1 : 2)", "1 + (# ? 1 : 2)", "1 + (i && #)", "1 + (!i || #)", "1 + !#", "1 + a[1 + !#]", "-#", "(i + 1) * (# == 3)"};
        for (int k = 0; k < parts.length; k++) {
            int v = due[k];
            int[] outer = {v, 1000 - v, 4 + 3 - v, 45 + v, 10 + v, v * 10 + 1, v, v, v, v, v, 30 + 50 + v, 5 * v, v < 20 ? 2 : 3, v != 0 ? 2 : 3, v != 0 ? 2 : 1, v != 0 ? 2 : 1, v == 0 ? 2 : 1, v == 0 ? 23 : 12, -v, v == 3 ? 4 : 0};
            for (int m = 0; m < around.length; m++) {
                b.ends(outer[m], ahead + "return " + around[m].replace("#", "(" + parts[k] + ")") + "; }");
            }
        }
    }

    /** Bodies of thousands of words, over which jumps go in both directions; each text fills most of the tape. */
    private static void longTexts(Bench b) {
        WordFoundry x = b.fresh();
        String ahead = "struct A{int a;};char z[3000];struct A a,b;int f(int n){return n+1;}int main(){int i=2;b.a=7;";
        for (int many : new int[] {300, 600, 900}) {
            String body = "a=b;".repeat(many) + "z[9]++;";
            String text = ahead + "while(i--){" + body + "}if(a.a==8){z[9]=0;" + "}else z[9]+=10;return f(z[9]);}";
            b.due(many + " copies", Bench.cast(x, text), 0);
            b.due("begin", x.begin(8192), true);
            x.go(9);
            b.due("ended with " + many, x.look(2), 13);
            text = ahead + "if(i==3){" + body + "}for(;i<4;i++){if(i==2)continue;z[9]+=2;}switch(i){case 9:" + "a=b;".repeat(9) + "case 4:z[9]++;}return f(z[9]);}";
            b.due("a jump over " + many + " copies", Bench.cast(b.fresh(), text), 0);
            b.ends(4, text.replace("z[3000]", "z[300]"));
        }
    }

    /** Each comparison as an E of if, while, do, for, && and !, on both sides of its edge. */
    private static void truths(Bench b) {
        String[] ops = {"<", ">", "<=", ">=", "==", "!="};
        for (int k = 0; k < ops.length; k++) {
            for (int left = 4; left <= 6; left++) {
                boolean holds = k == 0 ? left < 5 : k == 1 ? left > 5 : k == 2 ? left <= 5 : k == 3 ? left >= 5 : k == 4 ? left == 5 : left != 5;
                for (String type : new String[] {"int", "unsigned", "char"}) {
                    String made = "int main() { int r = 0; " + type + " i = " + left + ", five = 5; ";
                    String e = "i " + ops[k] + " five";
                    b.ends(holds ? 3 : 4, made + "if (" + e + ") r = 3; else r = 4; return r; }");
                    b.ends(holds ? 3 : 0, made + "if (" + e + ") r = 3; return r; }");
                    b.ends(holds ? 0 : 3, made + "if (!(" + e + ")) r = 3; return r; }");
                    b.ends(holds ? 1 : 0, made + "while (" + e + ") { r++; break; } return r; }");
                    b.ends(holds ? 2 : 1, made + "do { r++; if (r == 2) break; } while (" + e + "); return r; }");
                    b.ends(holds ? 1 : 0, made + "for (; " + e + "; ) { r++; break; } return r; }");
                    b.ends(holds ? 3 : 4, made + "if (five && " + e + ") r = 3; else r = 4; return r; }");
                    b.ends(holds ? 3 : 4, made + "if (" + e + " && " + e + " && i) r = 3; else r = 4; return r; }");
                    b.ends(holds ? 3 : 4, made + "if (r || " + e + ") r = 3; else r = 4; return r; }");
                    b.ends(holds ? 1 : 0, made + "return " + e + "; }");
                    b.ends(holds ? 3 : 4, made + "if (" + e.replace("five", "5") + ") r = 3; else r = 4; return r; }");
                }
            }
        }
        b.ends(3, "int main() { if (1) return 3; return 4; }");
        b.ends(4, "int main() { if (0) return 3; return 4; }");
        b.ends(3, "int main() { int *p = (int *) 4; if (p) return 3; return 4; }");
        b.ends(4, "int main() { int *p = 0; if (p) return 3; return 4; }");
    }

    /** break, continue and return among loops within loops. */
    private static void loops(Bench b) {
        String count = "int main() { int r = 0; for (int i = 0; i < 5; i++) { ";
        b.ends(5 * 2 + 300, count + "for (int k = 0; k < 4; k++) { if (k < 2) continue; r++; } if (i > 2) continue; r += 100; } return r; }");
        b.ends(5 * 2 + 300, count + "int k = 0; while (k < 4) { k++; if (k < 3) continue; r++; } if (i > 2) continue; r += 100; } return r; }");
        b.ends(5 * 2 + 300, count + "int k = 0; do { k++; if (k < 3) continue; r++; } while (k < 4); if (i > 2) continue; r += 100; } return r; }");
        b.ends(3 * 2 + 200, count + "for (int k = 0; ; k++) { if (k == 2) break; r++; } if (i == 2) break; r += 100; } return r; }");
        b.ends(3 * 2 + 200, count + "int k = 0; while (1) { if (k++ == 2) break; r++; } if (i == 2) break; r += 100; } return r; }");
        b.ends(3 * 2 + 200, count + "int k = 0; do { if (k++ == 2) break; r++; } while (1); if (i == 2) break; r += 100; } return r; }");
        b.ends(200, count + "switch (i) { case 0: break; case 1: continue; default: r += 50; break; } if (i == 3) break; r += 50; } return r; }");
        b.ends(120, count + "switch (1) { case 1: for (;;) { break; } r += 20; break; default: r = 1; } if (i == 4) continue; r += 5; } return r; }");
        b.ends(7, "int g = 7; void f(int n) { if (n) return; g = 9; } int main() { f(1); return g; }");
        b.ends(9, "int g = 7; void f(int n) { if (n) return; g = 9; } int main() { f(0); return g; }");
        b.ends(0, "int put2() { return 5; } void main() { put(1); if (put2()) return; halt(3); }");
        b.ends(4, "int f(int n) { for (;;) { while (1) { switch (n) { case 1: return 4; default: return 6; } } } } int main() { return f(1); }");
    }

    /** Variables and fields about the places from which on an offset of 12 bits is too small. */
    private static void offsets(Bench b) {
        for (int place = 2040; place <= 2056; place++) {
            String one = "int main() { char z[" + place + "]; char c = 5; z[0] = 1; c += 2; c++; char *p = &c; *p *= 2; return c + z[0] + (p - z == " + place + "); }";
            b.ends(18, one);
            b.ends(18, "char z[" + (place - 64) + "]; char c = 5; " + "int main() { z[0] = 1; c += 2; c++; char *p = &c; *p *= 2; return c + z[0] + ((int) p == " + place + "); }");
            String field = "struct S { char z[" + place + "]; char c; }; ";
            b.ends(18, field + "int main() { struct S s; s.z[0] = 1; s.c = 5; s.c += 2; s.c++; char *p = &s.c; *p *= 2; return s.c + s.z[0] + (p - s.z == " + place + "); }");
            b.ends(18, field + "struct S s; int main() { struct S *q = &s; q->z[0] = 1; q->c = 5; q->c += 2; q->c++; char *p = &q->c; *p *= 2; return q->c + q->z[0] + (p - q->z == " + place + "); }");
            b.ends(30, "struct S { int a; int b; }; char y[" + place + "]; struct S s; int main() { struct S t; struct S *q = &t; s.b = 30; t = s; s.b = 2; struct S w = *q; return w.b; }");
        }
    }

    /** Elements of one byte, of two, and of so many that a step needs more than 12 bits. */
    private static void elements(Bench b) {
        for (int size : new int[] {1, 2, 3, 4, 5, 8, 12, 100, 2046, 2047, 2048, 2049}) {
            String ahead = "struct E { char c[" + size + "]; }; char m[4]; int main() { struct E *p = (struct E *) m; int i = 3; ";
            b.ends(3 * size, ahead + "return (char *) &p[i] - m; }");
            b.ends(3 * size, ahead + "return (char *) &p[3] - m; }");
            b.ends(3 * size, ahead + "return (char *) (p + i) - m; }");
            b.ends(3 * size, ahead + "return (char *) (i + p) - m; }");
            b.ends(-3 * size, ahead + "return (char *) (p - i) - m; }");
            b.ends(size, ahead + "p++; return (char *) p - m; }");
            b.ends(-size, ahead + "--p; return (char *) p - m; }");
            b.ends(3 * size, ahead + "p += i; return (char *) p - m; }");
            b.ends(3 * size, ahead + "p += 3; return (char *) p - m; }");
            b.ends(-3 * size, ahead + "p -= i; return (char *) p - m; }");
            b.ends(3, ahead + "return p + i - p; }");
            b.ends(-3, ahead + "return p - (p + i); }");
            b.ends(2 * size, ahead + "p++; return (char *) (p++ + 1) - m; }");
        }
    }

    /** Calls with up to eight arguments behind up to 20 parts that wait. */
    private static void manyArguments(Bench b) {
        String params = "";
        String sum = "0";
        String handed = "";
        int value = 0;
        for (int count = 1; count <= 8; count++) {
            String comma = count == 1 ? "" : ", ";
            params += comma + "int a" + count;
            handed += comma + "x + " + count;
            sum = "(" + sum + ") * 3 + a" + count;
            value = value * 3 + 7 + count;
            // It uses as many registers as its caller does.
            String busy = "x - (".repeat(15) + "x" + ")".repeat(15);
            String callee = "int f(" + params + ") { int x = 1; return (" + busy + ") * 0 + " + sum + "; } ";
            for (int parts = 0; parts <= 20; parts++) {
                String e = "x + (".repeat(parts) + "f(" + handed + ")" + ")".repeat(parts);
                b.ends(value + 7 * parts, callee + "int main() { int x = 7; return " + e + "; }");
            }
        }
    }

    /** What 200 FRAMES keep waiting at once, and what is left of that when a run ends amid it. */
    private static void waiting(Bench b) {
        // Without INPUT all that waits is less than 0.
        String nested = "k * n + (".repeat(20) + "f(n - 1)" + ")".repeat(20);
        String text = "int k; int f(int n) { if (n) return " + nested + "; return 100 / (get() + 1); } int main() { k = get(); return f(180); }";
        WordFoundry x = b.fresh();
        b.due(text, Bench.cast(x, text), 0);
        for (int k = 0; k < 60; k++) {
            x.begin(4096);
            x.go(1000);
            b.due("it TRAPPED", x.look(2), 1);
        }
        Bench.feed(x, "\u00011");
        x.supply();
        x.begin(4096);
        x.go(1000);
        b.due("ended", x.look(1), 3);
        b.due("with the sum", x.look(2), 20 * 180 * 181 / 2 + 100 / 50);
    }
}
