/** Promise 3, Terms 3 and 4: the MEANING of declarations, of INITS, and the END. */
public final class DeclarationTest {
    public static void main(String[] args) {
        Bench b = new Bench();
        stretches(b);
        structs(b);
        enums(b);
        dims(b);
        sizes(b);
        functions(b);
        initials(b);
        openArrays(b);
        localInitials(b);
        places(b);
        counts(b);
        end(b);
        b.close();
    }

    private static void stretches(Bench b) {
        b.fault(4, "int a; char @a; int main() { }");
        b.fault(4, "int a, @a; int main() { }");
        b.fault(4, "enum { A, @A }; int main() { }");
        b.fault(4, "int A; enum { @A }; int main() { }");
        b.fault(4, "int f(); int @f; int main() { }");
        b.fault(4, "int @get; int main() { }");
        b.fault(4, "enum { @put }; int main() { }");
        b.fault(4, "int f(int a, int @a); int main() { }");
        b.fault(4, "int f(int a) { int @a; } int main() { }");
        b.right("int f(int a) { { int a; { int a; } } int f; } int a; int main() { int get; for (int a; ; ) { int a; break; } }");
        b.fault(4, "int main() { for (int a; ; ) ; int b, @b; }");
        b.fault(4, "int main() { for (int a, @a; ; ) ; }");
        b.fault(4, "int main() { switch (1) { int a; case 1: int @a; } }");
        b.right("int main() { int a; switch (1) { int a; } for (int a; 0; ) ; { int a; } }");
        b.fault(3, "int main() { { int a; } @a; }");
        b.fault(3, "int main() { for (int a; 0; ) ; @a; }");
        b.fault(3, "int main() { switch (1) { int a; } @a; }");
        b.fault(3, "int f(int a); int main() { @a; }");
        b.fault(3, "int main() { @a; int a; }");
        b.fault(3, "int main() { @f(); } int f() { }");
        b.right("int f() { return f(); } int main() { int x = x; int y = sizeof y; return get(); }");
        b.ends(7, "int x = 5; int main() { int y = x; int x = 2; { int x = 9; } return x + y; }");
        b.ends(3, "enum { A = 3 }; int main() { int b = A; int A = 9; return b; }");
        b.right("struct a { int a; }; struct b { int a; struct a b; }; int a; int main() { struct a b; b.a = a; }");
        b.right("int f(int a[3], int b[sizeof a]); int main() { }");
        b.fault(3, "int f(int a[sizeof @f]); int main() { }");
        b.fault(3, "enum { A = @A }; int main() { }");
        b.right("int a[sizeof (int *)]; enum { A, B = A + 1 }; int main() { }");
    }

    private static void structs(Bench b) {
        b.fault(4, "struct A { int a; }; struct @A { int b; }; int main() { }");
        b.fault(4, "struct A { int a; char @a; }; int main() { }");
        b.fault(9, "struct A { struct A @a; }; int main() { }");
        b.fault(9, "struct A { struct B @a; }; int main() { }");
        b.fault(9, "struct A { void @a; }; int main() { }");
        b.fault(9, "struct A { void @a[2]; }; int main() { }");
        b.fault(9, "struct A { int a@[]; }; int main() { }");
        b.fault(9, "struct A { int a[2]@[]; }; int main() { }");
        b.fault(9, "struct A { int a; int b[sizeof @(struct A)]; }; int main() { }".replace("sizeof @", "@sizeof "));
        b.right("struct A { struct A *a; struct B *b; void *c; }; struct B { struct A a; }; int main() { }");
        b.fault(9, "struct B @b; struct B { int a; }; int main() { }");
        b.right("struct B *b; struct B { int a; }; int main() { return b->a + (*b).a + b[1].a; }");
        b.fault(12, "struct A { char a[16384]; char @b; }; int main() { }");
        b.right("struct A { char a[16383]; char b; }; int main() { }");
        b.fault(12, "struct A { char a[16381]; int @b; }; int main() { }");
        b.fault(12, "struct A { int @a[4097]; }; int main() { }");
        b.fault(12, "struct A { char a[16384]; char @a; }; int main() { }");
        b.right("struct A { char a[16380]; int b; }; int main() { }");
    }

    private static void enums(Bench b) {
        b.fault(8, "int x; enum { A = @x }; int main() { }");
        b.fault(8, "enum { A = @\"a\" }; int main() { }");
        b.fault(8, "int x; enum { A = @&x }; int main() { }");
        b.fault(8, "enum { A = @(int *) 0 }; int main() { }");
        b.fault(8, "enum { A = 1 ? 2 : 3 @/ 0 }; int main() { }");
        b.fault(8, "int x; enum { A = 1 @|| x }; int main() { }");
        b.fault(8, "int x; enum { A, @A = x }; int main() { }".replace("@A = x", "A = @x"));
        b.fault(3, "enum { A = @x }; int main() { }");
        b.ends(2147483647 + 1, "enum { A = 2147483647, B }; int main() { return B; }");
        b.ends(-1, "enum { A = 0xffffffff }; int main() { return A < 0 ? A : 5; }");
        b.ends(11, "enum { A, B, C = 10, D, E = B }; int main() { return A + D + E - 1; }");
    }

    private static void dims(Bench b) {
        for (String wrong : new String[] {"0", "@-1", "16385", "0xffffffff", "\"a\"", "4294967295", "'\\0'"}) {
            String marked = wrong.indexOf('@') < 0 ? "@" + wrong : wrong;
            b.fault(8, "char a[" + marked + "]; int main() { }");
        }
        b.fault(8, "int x; char a[@x]; int main() { }");
        b.fault(8, "char a[1 @/ 0]; int main() { }");
        b.fault(8, "int x; int f(int a[@x]); int main() { }");
        b.fault(8, "int main() { int x; int a[1 @+ x]; }");
        b.fault(3, "char a[@x]; int main() { }");
        b.fault(5, "char a[1 @+ \"a\" * 2]; int main() { }".replace("1 @+ \"a\" * 2", "1 + \"a\" @* 2"));
        b.right("char a[16384]; char c[2 + 2][(unsigned) 3]['a']; int main() { }");
        b.fault(9, "int a@[]; int main() { }");
        b.fault(9, "int a[2]@[]; int main() { }");
        b.fault(9, "int a[]@[] = {1}; int main() { }");
        b.fault(9, "int main() { int a@[]; }");
        b.fault(9, "int main() { int a@[] = {1}; }");
        b.fault(9, "int f(int a[]@[]); int main() { }");
        b.fault(9, "int f(int a[2]@[]); int main() { }");
        b.right("int f(int a[], int b[][3], int c[2][3]); int main() { }");
        b.fault(8, "int f(int a[@0]); int main() { }");
        b.fault(9, "void @a; int main() { }");
        b.fault(9, "void @a[0]; int main() { }");
        b.fault(9, "struct N @a[0]; int main() { }");
        b.fault(9, "int f(void @a); int main() { }");
        b.fault(9, "int f(void @a[]); int main() { }");
        b.fault(9, "int f(struct N @a); int main() { }");
        b.fault(9, "int main() { void @a; }");
        b.fault(9, "int a; void @a; int main() { }");
        b.right("void *a; struct N *b[3]; int f(void *a, struct N *b[]); int main() { }");
        b.fault(9, "int a@[], b[0]; int main() { }");
        b.fault(8, "int a[@0][]; int main() { }");
    }

    private static void sizes(Bench b) {
        b.fault(12, "int @a[4097]; int main() { }");
        b.right("int a[4096]; int main() { }");
        b.fault(12, "int @a[128][128]; int main() { }");
        b.fault(12, "int @a[16384][16384][16384][16384]; int main() { }");
        b.fault(12, "int a; char @a[2][16384]; int main() { }");
        b.fault(12, "int f(int @a[1][16384]); int main() { }");
        b.fault(12, "int f(int @a[][4097]); int main() { }");
        b.right("int f(int a[16384][4096]); int main() { }");
        b.right("int f(int a[16384]); int main() { }");
        b.fault(12, "int @a[][4097] = {1}; int main() { }");
        b.fault(12, "int main() { int @a[4097]; }");
    }

    private static void functions(Bench b) {
        b.fault(9, Bench.WORLD + "struct S @g(); int main() { }");
        b.fault(9, "struct N @g(int a, int a); int main() { }");
        b.right("struct N *g(); void *h(); void k(); unsigned u(); char c(); int main() { }");
        b.fault(9, Bench.WORLD + "int g(struct S @a); int main() { }");
        b.fault(4, Bench.WORLD + "int g(int a, struct S @a); int main() { }");
        b.right("int g(int a, int b, int c, int d, int e, int f, int g, int h); int main() { }");
        b.fault(12, "int g(int a, int b, int c, int d, int e, int f, int g, int h, int @i); int main() { }");
        b.fault(9, Bench.WORLD + "int g(int a, int b, int c, int d, int e, int f, int g, int h, struct S @i); int main() { }");
        b.fault(4, "int a; int @a(); int main() { }");
        b.fault(4, "enum { a }; int @a(int b); int main() { }");
        b.fault(4, "int @get(); int main() { }");
        b.fault(4, "int @put(int a) { } int main() { }");
        b.fault(4, "void @halt(int a); int main() { }");
        b.fault(4, "int a; int b(int c, int @c); int main() { }");
        b.right("int f(int a); int f(int b); int f(int c) { } int f(int d); int main() { }");
        b.right("int f(int a[]); int f(int *b); int f(int c[5]); int main() { }");
        b.right("int f(int a[][3]); int f(int a[7][3]); int main() { }");
        b.fault(5, "int f(int a[][3]); int @f(int a[7][4]); int main() { }");
        b.fault(5, "int f(int a); char @f(int a); int main() { }");
        b.fault(5, "int f(int a); int @f(char a); int main() { }");
        b.fault(5, "int f(int a); int @f(int a, int b); int main() { }");
        b.fault(5, "int f(int a, int b); int @f(int a); int main() { }");
        b.fault(5, "int f(int a) { } int @f() { } int main() { }");
        b.fault(5, "int *f(); int **@f(); int main() { }");
        b.fault(4, "int f(int a) { } int @f(int a) { } int main() { }");
        b.fault(4, "int main() { } int @main() { }");
        StringBuilder many = new StringBuilder();
        for (int k = 0; k < 59; k++) {
            many.append("int f").append(k).append("();");
        }
        b.right(many + "int f1();int f2(){}int main(){}");
        b.fault(12, many + "int f1();int g();int @main(){}");
        b.fault(12, many + "int main(){}int @g(int a);");
    }

    private static void initials(Bench b) {
        b.right("int a = 1 + 2 * 3, b = -1; char c = 300, d = 'a'; unsigned u = 0xffffffff; int e = sizeof e; int main() { }");
        b.fault(5, "int a = @\"a\"; int main() { }");
        b.fault(5, "int a; int b = @&a; int main() { }");
        b.fault(8, "int a; int b = @a; int main() { }");
        b.fault(8, "int a; int b = 1 @+ a; int main() { }");
        b.fault(8, "int b = @get(); int main() { }".replace("@get(", "get@("));
        b.fault(5, "int b = put@(1); int main() { }");
        b.fault(3, "int b = @x; int main() { }");
        b.fault(8, "int a; int b = a @= 2; int main() { }");
        b.fault(5, "int b = @{1}; int main() { }");
        b.fault(5, "int *b = @{0}; int main() { }");
        b.right("int a, c[3]; int *b = 0, *d = &a, *e = c, *g = 1 - 1, *k = '\\0'; void *f = &c, *h = c, *i = \"x\"; char *j = \"y\"; int main() { }");
        b.fault(5, "int *b = @1; int main() { }");
        b.fault(5, "int *b = @\"a\"; int main() { }");
        b.fault(5, "char c; int *b = @&c; int main() { }");
        b.fault(5, "int c[3]; int *b = @&c; int main() { }");
        b.fault(5, "int *b = @(unsigned) 0; int main() { }");
        b.fault(8, "int *b = @(int *) 0; int main() { }");
        b.fault(8, "int c[3]; int *b = @&c[1]; int main() { }");
        b.fault(8, "int c[3]; int *b = c @+ 1; int main() { }");
        b.fault(8, "int *c; int *b = @c; int main() { }");
        b.fault(8, "struct A { int a; }; struct A a; int *b = @&a.a; int main() { }");
        b.fault(8, "int c[2][3]; int *b = @c[1]; int main() { }".replace("@c[1]", "c@[1]"));
        b.fault(8, "int a; int *b = 1 @? &a : 0; int main() { }");
        b.fault(8, "int f(); int *b = f@(0); int main() { }".replace("f@(0)", "@(void *) 0"));
        b.fault(8, "int a; void *b = (0@, &a); int main() { }");
        b.right("int a; int *b = (&(a)); int c[3]; int *d = (c); struct A { int x; }; struct A s; struct A *p = &s; void *v = &s; int main() { }");
        b.right("char a[4] = \"abc\"; char b[9] = \"abc\"; char c[2][3] = {\"ab\", \"c\"}; int main() { }");
        b.fault(5, "char a[3] = @\"abc\"; int main() { }");
        b.fault(5, "int a[9] = @\"abc\"; int main() { }");
        b.fault(5, "char a[2][4] = @\"abc\"; int main() { }");
        b.fault(5, "char a[4] = {@\"abc\"}; int main() { }");
        b.fault(5, "int a[2] = {1, 2, @3}; int main() { }");
        b.fault(5, "int a[2] = {1, 2, 3 @+ 4}; int main() { }");
        b.fault(5, "int a[2] = {1, 2, @x}; int main() { }");
        b.fault(5, "int a[2] = {1, 2, @{3}}; int main() { }");
        b.fault(5, "int a[2] = {1, @{2}}; int main() { }");
        b.fault(5, "int a[2][2] = {{1, 2}, @3}; int main() { }");
        b.fault(5, "int a[2] = @1; int main() { }");
        b.fault(5, "int a[2] = 1 @+ x; int main() { }");
        b.fault(5, "struct A { int a; }; struct A b = {1, @2}; int main() { }");
        b.fault(5, "struct A { int a; }; struct A b = @1; int main() { }");
        b.fault(5, "struct A { int a; }; struct A a; struct A b = @a; int main() { }");
        b.fault(5, "struct A { int a; int *b; }; struct A b = {1, @2}; int main() { }");
        b.fault(8, "int x; int a[2] = {1, @x}; int main() { }");
        b.right("struct A { char a[4]; int *b; struct B { int c; } d; };".replace("struct B { int c; } d; ", "")
            + "struct A a[2] = {{\"abc\", 0}, {{'x'}}}; int main() { }");
    }

    private static void openArrays(Bench b) {
        data(b, "char a[] = \"abc\"; int main() { }", 0, 4);
        data(b, "char a[] = \"\"; int main() { }", 0, 1);
        data(b, "int a[] = {1, 2, 3}; int main() { }", 0, 12);
        data(b, "int a[][2] = {{1}, {2}, {3}}; int main() { }", 0, 24);
        data(b, "char *a[] = {\"x\", \"yy\"}; int main() { }", 0, 8);
        data(b, "int a[] = {sizeof a, 2}; int main() { }", 0, 8);
        b.fault(5, "int a[] = @5; int main() { }");
        b.fault(5, "int a[] = @\"ab\"; int main() { }");
        b.fault(5, "char a[] = {@\"abc\"}; int main() { }");
        b.fault(5, "char a[][3] = @\"abc\"; int main() { }");
        b.fault(12, "char @a[][16384] = {\"a\", x}; int main() { }");
        b.right("char a[][16384] = {\"a\"}; int main() { }");
        b.fault(12, "char x[16384]; char @a[][8192] = {\"a\", x}; int main() { }".replace("8192", "16384"));
        b.fault(12, "char x[16384]; char y[16300]; int @a[] = {1, 2, 3, 4, 5, 6, z}; int main() { }");
        b.fault(4, "int a; char @a[][16384] = {1, 2, 3}; int main() { }");
    }

    private static void data(Bench b, String text, int thing, int size) {
        WordFoundry x = b.fresh();
        b.due(text, Bench.cast(x, text), 0);
        b.due("size of " + text, x.thing(thing, 2), size);
    }

    private static void localInitials(Bench b) {
        b.rightIn("int a = 1, *b = &a, *d = 0; char e = 999; void *g = b; int *h = g; char *j = \"a\"; struct S k = s; struct S n = *ps; int o = a, o2 = o;");
        b.rightIn("struct S a = (1, s);");
        b.faultIn(5, "int a = @p;");
        b.faultIn(5, "int *a = @1;");
        b.faultIn(5, "int *a = @q;");
        b.faultIn(5, "int a = @s;");
        b.faultIn(5, "int a = vf@();");
        b.faultIn(5, "struct S a = @t;");
        b.faultIn(5, "struct S a = @1;");
        b.faultIn(5, "struct S a = @ps;");
        b.faultIn(12, "struct L a = @l;");
        b.faultIn(5, "struct L a = @s;");
        b.faultIn(9, "int a = @{1};");
        b.faultIn(9, "int *a = @{1};");
        b.faultIn(9, "struct S a = @{1};");
        b.faultIn(9, "int a[2] = @{1};");
        b.faultIn(9, "int a[2] = @1;");
        b.faultIn(9, "int a[2] = @arr;");
        b.faultIn(9, "char a[4] = @\"abc\";");
        b.faultIn(9, "int a[2] = 1 @+ 1;");
        b.faultIn(9, "int a[2] = 1 @+ x;");
        b.faultIn(4, "int x; int x@ = y;".replace("x@", "@x"));
        b.faultIn(3, "int a = @y;");
    }

    private static void places(Bench b) {
        b.right("char a[16384]; char c[16320]; int main() { }");
        b.fault(12, "char a[16384]; char c[16320]; char @d; int main() { }");
        b.fault(12, "char a[16384]; char @c[16321]; int main() { }");
        b.fault(12, "char a[16384]; char c[16317]; int @d; int main() { }");
        b.fault(4, "char a[16384]; char @a[16384]; int main() { }");
        b.fault(12, "char a[16384]; char @b[16384] = x; int main() { }");
        b.right("int main() { char a[8192]; }");
        b.fault(12, "int main() { char a[8192]; char @b; }");
        b.fault(12, "int main() { char a[8189]; int @b; }");
        b.fault(12, "int main() { { char a[8000]; } { char @b[8000] = x; } }".replace("[8000] = x", "[8000]"));
        b.fault(12, "int f(char a) { char @b[8192]; } int main() { }");
        b.fault(4, "int main() { char a[8000]; char @a[8000]; }");
        b.right("int f() { char a[8000]; } int g() { char a[8000]; } int main() { char a[8000]; }");
    }

    /** 500 names in all. */
    private static void counts(Bench b) {
        b.right(names(499) + "int main(){}");
        b.fault(12, names(500) + "int @main(){}");
        b.fault(12, names(499) + "int main(){int @a;}");
        b.fault(12, names(500) + "int @zz;int main(){}");
        b.fault(4, names(500) + "int @a0;int main(){}");
        b.fault(12, names(498) + "int main();int main();int @main(){}");
        b.fault(12, names(498) + "int f(int a,int b,int @c);int main(){}");
        b.fault(12, names(499) + "struct S{int @a;};int main(){}");
        b.fault(12, names(500) + "struct @S{int a;};int main(){}");
        b.right(names(497) + "struct S*s;struct T{int a;};int main(){}".replace("struct S*s;", ""));
        b.fault(12, names(498) + "enum{A,B,@C};int main(){}");
        b.fault(9, names(500) + "void @x;int main(){}");
        b.fault(5, names(499) + "int f();char @f();int main(){}");
    }

    private static String names(int count) {
        StringBuilder s = new StringBuilder("char ");
        for (int k = 0; k < count; k++) {
            s.append(k == 0 ? "" : ",").append((char) ('a' + k % 26)).append(k / 26);
        }
        return s.append(";").toString();
    }

    private static void end(Bench b) {
        b.fault(11, "int f(int a); int main() { return @f(1); }");
        b.fault(11, "int f(int a); int g(int a); int main() { return @g(f(1)); }");
        b.fault(11, "int f(int a); int g() { return @f(1); } int main(int a);");
        b.fault(11, "int f(); int main() { return sizeof @f(); }");
        b.fault(11, "int f(); int a[sizeof @f()]; int main() { }");
        b.right("int f(); int main() { return f(); } int f() { }");
        b.right("int f(); int main() { }");
        for (String text : new String[] {"", "int a;", "int main();", "char main() { }", "unsigned main() { }",
            "int main(int a) { }", "int *main() { }", "int main;", "enum { main };", "void *main() { }"}) {
            b.fault(11, text + "@");
        }
        b.right("void main() { }");
        b.right("int main(void) { }");
        b.right("int main(); int main() { } int main();");
        String full = "char a[16384]; char b[16319]; ";
        b.right(full + "int main() { \"\"; }");
        b.fault(12, full + "int main() { @\"a\"; }");
        b.fault(12, full + "int main() { \"\"; sizeof @\"\"; }");
        b.fault(12, full + "char *c = 0; int main() { \"\"; }".replace("char *c = 0; int main() { \"\"; }", "int main() { \"\"; @\"abc\"; }"));
        b.fault(11, full + "int f(); int main() { \"abc\"; @f(); }");
        b.fault(11, full + "int maim() { \"abc\"; }@");
    }
}
