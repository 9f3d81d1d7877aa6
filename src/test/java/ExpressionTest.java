/** Promise 3, Terms 3 and 4: the MEANING of E's and S's. */
public final class ExpressionTest {
    public static void main(String[] args) {
        Bench b = new Bench();
        names(b);
        calls(b);
        sizes(b);
        unary(b);
        steps(b);
        casts(b);
        parts(b);
        binary(b);
        comparisons(b);
        choices(b);
        assignments(b);
        constants(b);
        order(b);
        statements(b);
        b.close();
    }

    private static void names(Bench b) {
        b.faultIn(3, "@x;");
        b.faultIn(5, "@f;");
        b.faultIn(5, "@get;");
        b.faultIn(5, "sizeof @f;");
        b.faultIn(5, "&@f;");
        b.faultIn(6, "@&E0;");
        b.faultIn(6, "E0 @= 1;");
        b.faultIn(3, "(void) sizeof @x;");
        b.rightIn("i; s; arr; m; \"a\"; E5; v; n; l; vf();");
    }

    private static void calls(Bench b) {
        b.faultIn(3, "@x();");
        b.faultIn(3, "@x(y);");
        b.faultIn(5, "@i();");
        b.faultIn(5, "@E0(y);");
        b.faultIn(7, "f(@);");
        b.faultIn(7, "f(1@);");
        b.faultIn(7, "f(1, q, @2);");
        b.faultIn(7, "f(1, q, 2 @+ 3);");
        b.faultIn(3, "f(1, q, @x);");
        b.faultIn(7, "vf(@1);");
        b.faultIn(7, "get(@p);");
        b.faultIn(7, "put(@);");
        b.faultIn(5, "f(@p);");
        b.faultIn(5, "f(1, @p);");
        b.faultIn(5, "f(1, q @+ p);");
        b.faultIn(5, "f(vf@());");
        b.faultIn(5, "f(@s, x);");
        b.faultIn(5, "put(@q);");
        b.faultIn(5, "halt(@\"a\");");
        b.faultIn(5, "f(1, @2);");
        b.rightIn("f(u, \"abc\"); f(c, 0); f(E5, v); put(get()); halt(u); f(1, E0);");
        b.faultIn(5, "1 @+ vf();");
        b.faultIn(5, "i @= vf();");
    }

    private static void sizes(Bench b) {
        String[] of = {"int", "char", "unsigned", "int *", "char **", "struct S", "void *", "struct N *"};
        int[] size = {4, 1, 4, 4, 4, 20, 4, 4};
        for (int k = 0; k < of.length; k++) {
            b.ends(size[k], Bench.WORLD + "int main() { return sizeof (" + of[k] + "); }");
        }
        String[] values = {"c", "(c)", "c + 0", "-c", "~c", "!c", "c++", "++c", "c = 1", "c += 1", "(char) i", "(0, c)", "1 ? c : c", "arr", "m",
            "m[0]", "m[0][0]", "&arr", "*m", "**m", "arr + 0", "\"abc\"", "*\"abc\"", "s", "s.b", "ps->r", "*ps", "l", "(0, arr)",
            "(0, s)", "1 ? arr : p", "q[1]", "&c", "f(1, 0)", "u", "E5", "'a'", "sizeof c", "c << 1", "c == c", "c && c", "*&c", "(1, \"abc\")"};
        int[] bytes = {1, 1, 4, 4, 4, 4, 4, 4, 4, 4, 4, 4, 4, 16, 24, 12, 4, 4, 12, 4, 4, 4, 1, 20, 1, 12, 20, 33, 4, 20, 4, 1, 4, 4, 4, 4, 4, 4,
            4, 4, 4, 1, 4};
        for (int k = 0; k < values.length; k++) {
            b.ends(bytes[k], Bench.WORLD + "int main() { return sizeof (" + values[k] + "); }");
        }
        b.ends(1, Bench.WORLD + "char g() { return 1; } int main() { return sizeof g() == 4 && sizeof i++ == 4 && i == 0; }");
        b.faultIn(9, "@sizeof (void);");
        b.faultIn(9, "@sizeof (struct N);");
        b.faultIn(9, "@sizeof vf();");
        b.faultIn(9, "@sizeof (void) 1;".replace("sizeof (void) 1", "sizeof ((void) 1)"));
        b.faultIn(9, "sizeof @*n;");
        b.faultIn(8, "sizeof (1 @/ 0);");
        b.faultIn(9, "@sizeof (s = s);");
    }

    private static void unary(Bench b) {
        b.faultIn(5, "@-p;");
        b.faultIn(5, "@~s;");
        b.faultIn(5, "@-arr;");
        b.faultIn(5, "@!s;");
        b.faultIn(5, "@!vf();");
        b.rightIn("!p; !arr; !\"a\"; -c; ~u; -E0;");
        b.faultIn(6, "@&1;");
        b.faultIn(6, "@&\"a\";");
        b.faultIn(6, "@&(i + 1);");
        b.faultIn(6, "@&i++;");
        b.faultIn(6, "@&(0, i);");
        b.faultIn(6, "@&&i;".replace("@&&i", "@& &i"));
        b.faultIn(6, "@&(i = 1);");
        b.faultIn(6, "@&f(1, q);");
        b.faultIn(6, "@&(char) c;");
        b.faultIn(6, "@&(1 ? i : i);");
        b.rightIn("&i; &arr; &m[0]; &s; &s.r; &ps->a; &*p; &(i); &\"abc\"[1]; &*n == 0;".replace("&*n == 0;", ""));
        b.faultIn(5, "@*i;");
        b.faultIn(5, "@*v;");
        b.faultIn(5, "@*s;");
        b.faultIn(9, "@*n;");
        b.faultIn(9, "&@*n;");
        b.rightIn("*p; *arr; **m; *\"a\"; *&s; *ps; *&v; *&n;");
    }

    private static void steps(Bench b) {
        for (String op : new String[] {"++", "--"}) {
            b.faultIn(6, "@" + op + "1;");
            b.faultIn(6, "1@" + op + ";");
            b.faultIn(6, "i++@" + op + ";");
            b.faultIn(6, "@" + op + "i++;");
            b.faultIn(6, "\"a\"@" + op + ";");
            b.faultIn(5, "arr@" + op + ";");
            b.faultIn(5, "@" + op + "s;");
            b.faultIn(5, "v@" + op + ";");
            b.faultIn(9, "n@" + op + ";");
            b.faultIn(9, "@" + op + "n;");
            b.rightIn("i" + op + "; " + op + "c; p" + op + "; ps" + op + "; *p" + op + "; s.b" + op + "; (i)" + op + "; " + op + "*p;");
        }
    }

    private static void casts(Bench b) {
        b.rightIn("(void) i; (void) s; (void) vf(); (int) p; (char) q; (int *) 3; (struct N *) p; (void *) arr; (unsigned) c; (int **) \"a\"; (void) (void) 1;");
        b.faultIn(5, "@(struct S) s;");
        b.faultIn(5, "@(struct N) i;");
        b.faultIn(5, "@(int) s;");
        b.faultIn(5, "@(int) vf();");
        b.faultIn(5, "@(int *) (void) 1;");
        b.faultIn(5, "1 @+ (void) 1;");
    }

    private static void parts(Bench b) {
        b.faultIn(5, "i@[1];");
        b.faultIn(5, "1@[arr];");
        b.faultIn(5, "arr@[p];");
        b.faultIn(5, "arr@[s];");
        b.faultIn(5, "v@[1];");
        b.faultIn(9, "n@[1];");
        b.faultIn(5, "arr[1]@[1];");
        b.faultIn(3, "@x[y];");
        b.faultIn(3, "arr[@y];");
        b.rightIn("arr[c]; m[1][u]; p[-1]; \"abc\"[1]; ps[1].a; (&s)[0].r[1];");
        b.faultIn(5, "i@.a;");
        b.faultIn(5, "ps@.a;");
        b.faultIn(5, "(0, s)@.a;");
        b.faultIn(5, "(s = s)@.a;");
        b.faultIn(3, "s.@x;");
        b.faultIn(3, "t.@b;");
        b.faultIn(5, "s@->a;");
        b.faultIn(5, "p@->a;");
        b.faultIn(5, "i@->a;");
        b.faultIn(5, "v@->a;");
        b.faultIn(9, "n@->a;");
        b.faultIn(3, "ps->@x;");
        b.faultIn(3, "ps->@s;");
        b.rightIn("s.a; s.r[0]; ps->b; (*ps).a; (&s)->a; (0, ps)->a; (1 ? ps : 0)->a;");
    }

    private static void binary(Bench b) {
        for (String op : new String[] {"*", "/", "%", "&", "^", "|", "<<", ">>"}) {
            b.faultIn(5, "p @" + op + " 1;");
            b.faultIn(5, "1 @" + op + " s;");
            b.faultIn(5, "arr @" + op + " arr;");
            b.rightIn("i " + op + " c; u " + op + " i; E5 " + op + " 'a';");
        }
        b.rightIn("p + 1; 1 + p; arr + c; p - u; p - p; arr - p; ps + 1; &arr + 1; m - m; \"a\" + 1; &s - ps; n == n;");
        b.faultIn(5, "p @+ p;");
        b.faultIn(5, "1 @- p;");
        b.faultIn(5, "p @- q;");
        b.faultIn(5, "v @+ 1;");
        b.faultIn(5, "1 @+ v;");
        b.faultIn(5, "v @- 1;");
        b.faultIn(5, "v @- v;");
        b.faultIn(5, "v @- p;");
        b.faultIn(9, "n @+ 1;");
        b.faultIn(9, "1 @+ n;");
        b.faultIn(9, "n @- 1;");
        b.faultIn(9, "n @- n;");
        b.faultIn(5, "n @- p;");
        b.faultIn(5, "n @+ n;");
        b.faultIn(5, "s @+ 1;");
        b.faultIn(5, "p @+ s;");
        b.faultIn(5, "&arr @- arr;");
        b.faultIn(5, "m @- arr;");
        b.rightIn("m[0] - arr;");
    }

    private static void comparisons(Bench b) {
        for (String op : new String[] {"==", "!="}) {
            b.rightIn("i " + op + " u; p " + op + " p; p " + op + " 0; 0 " + op + " p; p " + op + " v; v " + op + " p; n " + op + " v; arr " + op
                + " p; v " + op + " 0; n " + op + " E0; p " + op + " 1 - 1;");
            b.faultIn(5, "p @" + op + " q;");
            b.faultIn(5, "p @" + op + " 1;");
            b.faultIn(5, "p @" + op + " i;");
            b.faultIn(5, "p @" + op + " (unsigned) 0;");
            b.faultIn(5, "s @" + op + " s;");
            b.faultIn(5, "vf() @" + op + " vf();");
            b.faultIn(5, "0 @" + op + " s;");
        }
        for (String op : new String[] {"<", ">", "<=", ">="}) {
            b.rightIn("i " + op + " u; p " + op + " arr; v " + op + " v; n " + op + " n; c " + op + " 'a';");
            b.faultIn(5, "p @" + op + " 0;");
            b.faultIn(5, "p @" + op + " v;");
            b.faultIn(5, "p @" + op + " q;");
            b.faultIn(5, "s @" + op + " s;");
        }
        for (String op : new String[] {"&&", "||"}) {
            b.rightIn("i " + op + " p; arr " + op + " \"a\"; v " + op + " n;");
            b.faultIn(5, "s @" + op + " 1;");
            b.faultIn(5, "1 @" + op + " vf();");
            b.faultIn(3, "vf() " + op + " @x;");
        }
    }

    private static void choices(Bench b) {
        b.rightIn("i ? i : u; p ? p : 0; 1 ? 0 : p; i ? v : p; i ? q : v; i ? vf() : vf(); i ? arr : p; arr ? 1 : 2; i ? n : 0; i ? v : 0; i ? p : (0, p);");
        b.faultIn(5, "s @? 1 : 2;");
        b.faultIn(5, "vf() @? x : y;");
        b.faultIn(3, "i ? @x : y;");
        b.faultIn(3, "i ? s : @y;");
        b.faultIn(5, "i @? p : q;");
        b.faultIn(5, "i @? p : 1;");
        b.faultIn(5, "i @? 1 : vf();");
        b.faultIn(5, "i @? v : 1;");
        b.faultIn(5, "i @? 1 : v;");
        b.faultIn(5, "i @? v : s;");
        b.faultIn(5, "i @? vf() : v;");
        b.faultIn(5, "i @? s : s;");
        b.faultIn(5, "i @? vf() : p;");
        b.faultIn(5, "i @? m : arr;");
        b.faultIn(5, "p = i @? p : q;");
        b.faultIn(5, "q @= i ? v : p, q = p;".replace("q @= i ? v : p, q = p", "q = i ? v : p, q @= p"));
        b.ends(1, "int main() { return (1 ? -1 : 0xffffffff) > 0; }");
        b.ends(1, "int main() { int i = 1; unsigned u = 0; return (i ? -1 : u) > 0; }");
    }

    private static void assignments(Bench b) {
        b.rightIn("i = u; c = i; p = 0; p = v; v = p; p = arr; s = s; *ps = s; s = (1, *ps); q = \"a\"; n = v; i = c = 3; p = p = 0; s.a = t.a; t = t;");
        b.faultIn(6, "1 @= 2;");
        b.faultIn(6, "i++ @= 2;");
        b.faultIn(6, "\"a\" @= 2;");
        b.faultIn(6, "(i, i) @= 2;");
        b.faultIn(6, "(i ? i : i) @= 2;");
        b.faultIn(6, "(char) c @= 2;");
        b.faultIn(6, "1 @= s;");
        b.faultIn(6, "f(1, q) @= vf();");
        b.faultIn(3, "1 = @x;");
        b.faultIn(5, "arr @= p;");
        b.faultIn(5, "arr @= arr;");
        b.faultIn(5, "i @= p;");
        b.faultIn(5, "p @= i;");
        b.faultIn(5, "p @= 1;");
        b.faultIn(5, "p @= q;");
        b.faultIn(5, "s @= t;");
        b.faultIn(5, "s @= 0;");
        b.faultIn(5, "s @= ps;");
        b.faultIn(5, "i @= s;");
        b.faultIn(12, "l @= l;");
        b.faultIn(5, "l @= s;");
        b.faultIn(5, "i @= s = s;".replace("i @= s = s", "i @= (s = s)"));
        b.faultIn(5, "s @= (s = s);");
        for (String op : new String[] {"+=", "-="}) {
            b.rightIn("i " + op + " u; p " + op + " 1; ps " + op + " c; c " + op + " 1;");
            b.faultIn(5, "v @" + op + " 1;");
            b.faultIn(9, "n @" + op + " 1;");
            b.faultIn(5, "p @" + op + " p;");
            b.faultIn(5, "i @" + op + " p;");
            b.faultIn(5, "arr @" + op + " 1;");
            b.faultIn(5, "n @" + op + " n;");
        }
        for (String op : new String[] {"*=", "/=", "%=", "&=", "|=", "^=", "<<=", ">>="}) {
            b.rightIn("i " + op + " u; c " + op + " 'a'; u " + op + " 0;");
            b.faultIn(5, "p @" + op + " 1;");
            b.faultIn(5, "i @" + op + " s;");
            b.faultIn(5, "s @" + op + " s;");
            b.faultIn(6, "1 @" + op + " s;");
        }
        b.faultIn(6, "arr + 1 @= p;");
    }

    private static void constants(Bench b) {
        b.faultIn(8, "i = 5 @/ 0;");
        b.faultIn(8, "5 @% (1 - 1);");
        b.faultIn(8, "i && 5 @/ 0;");
        b.faultIn(8, "0 && 5 @/ 0;");
        b.faultIn(8, "1 ? 2 : 5 @/ E0;");
        b.faultIn(8, "0xffffffff @% 0;");
        b.rightIn("i / 0; i % 0; i /= 0; 5 / i; 5 / (i, 0); (i, 5) / 0;");
        String[] values = {"1 + 2 * 3 - 4", "-7 / 2", "-7 % 2", "7 / -2", "0xffffffff / 2", "-1 / 2", "(unsigned) -1 / 2", "1 << 33", "-1 >> 1",
            "0xffffffff >> 31", "-2147483647 - 1", "(-2147483647 - 1) / -1", "(-2147483647 - 1) % -1", "2147483647 + 1", "65536 * 65536", "~5", "!5", "!0", "5 & 3 | 8 ^ 1",
            "-1 < 1", "-1 < 0x80000000", "4294967295 > 1", "5 == 5", "5 != 5", "1 && 0", "0 || 3", "1 ? 5 : 6", "0 ? 5 : 6", "(char) 300", "(char) -1",
            "(int) 0xffffffff < 0", "-0x80000000 > 0", "~0 == 0xffffffff", "1 << -1", "-8 >> 33", "'a' + 1", "sizeof (int) - 5 < 0", "-5 % 0x7fffffff", "0x80000000 % 7", "1 <= 1", "2 >= 3"};
        int[] due = {3, -3, -1, -3, 2147483647, 0, 2147483647, 2, -1, 1, -2147483648, -2147483648, 0, -2147483648, 0, -6, 0, 1, 9, 1, 0, 1, 1, 0, 0, 1, 5, 6, 44,
            255, 1, 1, 1, -2147483648, -4, 98, 1, -5, 2, 1, 0};
        for (int k = 0; k < values.length; k++) {
            WordFoundry x = b.fresh();
            b.due(values[k], Bench.cast(x, "enum { A = " + values[k] + " }; int main() { }"), 0);
            b.due("value of " + values[k], x.thing(0, 1), due[k]);
        }
        // The same without constants.
        String made = "int main() { int one = 1; int z = 0; int r = 0; ";
        b.ends(-3, made + "return -7 * one / 2; }");
        b.ends(-1, made + "return -7 * one % 2; }");
        b.ends(-2147483648, made + "int k = -2147483647 - one; return k / (z - 1) + k % (z - 1); }");
        b.ends(2, made + "return one << 33; }");
        b.ends(-1, made + "return (z - 1) >> 31; }");
        b.ends(1, made + "return (0xffffffff * one) >> 31; }");
        b.ends(0, made + "return -one < 0x80000000; }");
        b.ends(44, made + "return (char) (300 * one); }");
    }

    /** Parts are gone through from the left, what is around them behind them. */
    private static void order(Bench b) {
        b.faultIn(3, "1 = 2 + @x;");
        b.faultIn(6, "(1 @= 2) + x;");
        b.faultIn(3, "f(@x, y);");
        b.faultIn(5, "f(@p, x);");
        b.faultIn(5, "(s @+ 1) * (5 / 0);");
        b.faultIn(5, "s @/ (void) 0;");
        b.faultIn(5, "(s @+ 1), (p * 2);");
        b.faultIn(3, "@x, y;");
        b.faultIn(5, "@-s, x;");
        b.fault(4, "int a; int @a; int f() { x; } int main() { }");
        b.fault(3, "int f() { @x; } int a; int a; int main() { }");
    }

    private static void statements(Bench b) {
        b.faultIn(5, "if (@s) x;");
        b.faultIn(5, "if (vf@()) x;");
        b.faultIn(5, "while (@s) x;");
        b.faultIn(5, "do ; while (@s);");
        b.faultIn(3, "do @x; while (s);");
        b.faultIn(5, "for (; @s; x) ;");
        b.rightIn("for (vf(); 1; vf()) break; for (s; ; s) break; if (p) ; while (arr) break; do ; while (!n);");
        b.faultIn(3, "for (; 1; @x) y;");
        b.faultIn(3, "if (i) @x; else y;");
        b.faultIn(3, "if (i) ; else @y;");
        b.faultIn(5, "switch (@p) { case x: }");
        b.faultIn(5, "switch (@s) { }");
        b.faultIn(5, "switch (vf@()) { }");
        b.faultIn(8, "switch (i) { case @i: }");
        b.faultIn(8, "switch (i) { case @\"a\": }");
        b.faultIn(3, "switch (i) { case @x: }");
        b.faultIn(8, "switch (i) { case 1 @/ 0: }");
        b.faultIn(10, "switch (i) { case 1: case 2: case @1: }");
        b.faultIn(10, "switch (i) { case 1: case 2 @- 1: }");
        b.faultIn(10, "switch (u) { case @-1: case 1: }".replace("case @-1: case 1:", "case -1: case @0xffffffff:"));
        b.faultIn(10, "switch (i) { default: case 1: @default: }");
        b.faultIn(3, "switch (i) { case 1: @x; case 1: }");
        b.rightIn("switch (c) { case 1: switch (i) { case 1: default: } default: case 300: }");
        b.faultIn(9, "@break;");
        b.faultIn(9, "@continue;");
        b.faultIn(9, "switch (1) { @continue; }");
        b.faultIn(9, "{ if (1) @break; }");
        b.faultIn(9, "while (1) ; @break;");
        b.faultIn(9, "switch (1) { } @break;");
        b.rightIn("while (1) { switch (1) { case 1: continue; break; } continue; break; }");
        b.faultIn(9, "@return;");
        b.fault(9, "void g() { @return x; } int main() { }");
        b.fault(9, "void h() { } void g() { @return h(); } int main() { }");
        b.right("void g() { return; } int main() { return 1; }");
        b.faultIn(3, "return @x;");
        b.faultIn(5, "return @p;");
        b.faultIn(5, "return 1, @p;".replace("1, @p", "1@, p"));
        b.faultIn(5, "return @s;");
        b.faultIn(5, "return vf@();");
        b.fault(5, "int *g() { return @1; } int main() { }");
        b.right("int *g() { return 0; } char h() { return 999; } void *k(int *p) { return p; } int main() { return 'a'; }");
        b.fault(9, "void main() { @return 0; }");
    }
}
