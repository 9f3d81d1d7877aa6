/** Terms 4, the MEANING of declarations and S's and the END, sentence by sentence. */
public final class MeaningEdgesTest {
    private static final String MAIN = " int main() { }";

    public static void main(String[] args) {
        Bench b = new Bench();
        known(b);
        stretches(b);
        twice(b);
        names(b);
        nameOrder(b);
        structs(b);
        enums(b);
        dims(b);
        empties(b);
        sizes(b);
        params(b);
        functions(b);
        initials(b);
        openArrays(b);
        locals(b);
        conditions(b);
        labels(b);
        jumps(b);
        returns(b);
        copies(b);
        frames(b);
        places(b);
        missing(b);
        strings(b);
        b.close();
    }

    private static void known(Bench b) {
        b.about("Names are known from their own declaration");
        b.fault(3, "int main() { @a = 1; int a; }");
        b.right("int main() { int a; a = 1; }");
        b.fault(3, "int main() { int x = @a, a; }");
        b.right("int main() { int a, x = a; }");
        b.fault(3, "int f() { return @a; } int a; int main() { }");
        b.fault(3, "enum { A = @B, B }; int main() { }");
        b.right("enum { B, A = B }; int main() { }");
        b.fault(3, "int a[@A]; enum { A = 1 }; int main() { }");
        b.about("a variable's: ahead of its =");
        b.right("int a = sizeof a; int *b[] = {sizeof b - 4}; int main() { int c = c; int d = sizeof d; }");
        b.fault(3, "int a[sizeof @a]; int main() { }");
        b.fault(3, "int main() { int a[sizeof @a]; }");
        b.ends(4, "int a; int main() { char a = sizeof a; return a + 3; }");
        b.about("a function's: ahead of its BLOCK");
        b.right("int f() { return f(); } int main() { }");
        b.fault(3, "int f(int a[sizeof @f(1)]) { } int main() { }");
        b.fault(3, "int g() { return @f(); } int f() { } int main() { }");
        b.right("int f(); int g() { return f(); } int f() { } int main() { }");
        b.about("get, put, halt are functions, known from the beginning");
        b.right("int main() { put(get()); halt(1); }");
        b.fault(5, "int main() { return @get; }");
        b.fault(7, "int main() { get(@1); }");
        b.fault(7, "int main() { put(@); }");
        b.fault(7, "int main() { halt(1, @2); }");
        b.fault(5, "int main() { return put@(1); }");
        b.fault(5, "int main() { return halt@(1); }");
    }

    private static void stretches(Bench b) {
        b.about("to the end of the nearest BLOCK, for, switch around it, or the text's");
        b.fault(3, "int main() { { int a; a; } @a; }");
        b.fault(3, "int main() { for (int a; a; a) a; @a; }");
        b.fault(3, "int main() { switch (1) { int a; case 1: a; } @a; }");
        b.fault(3, "int f(int a) { a; } int main() { @a; }");
        b.fault(3, "int f(int a); int main() { @a; }");
        b.fault(3, "int main() { do { int a; } while (@a); }");
        b.fault(3, "int main() { for (;; @a) { int a; } }");
        b.right("int a; int f() { a; } int main() { a; }");
        b.about("within that the innermost one counts");
        b.ends(1, "int a = 1; int main() { return a; }");
        b.ends(2, "int a = 1; int main() { int a = 2; return a; }");
        b.ends(3, "int a = 1; int main() { int a = 2; { int a = 3; return a; } }");
        b.ends(4, "int a = 1; int main() { int a = 2; for (int a = 4; ; ) { return a; } }");
        b.ends(5, "int a = 1; int main() { int a = 2; for (int a = 4; ; ) { int a = 5; return a; } }");
        b.ends(2, "int a = 1; int main() { int a = 2; { int a = 3; } for (int a = 4; 0; ) ; switch (1) { int a; } return a; }");
        b.ends(7, "enum { a = 1 }; int f(int a) { return a; } int main() { return f(7); }");
        b.fault(5, "int main() { int get; @get(); }");
        b.fault(5, "int f() { } int main() { int f; @f(); }");
        b.about("A function's PARAMS and what stands in its BLOCK itself are of one such stretch");
        b.fault(4, "int f(int a) { int @a; } int main() { }");
        b.right("int f(int a) { { int a; } } int main() { }");
        b.right("int f(int a) { for (int a; ; ) ; } int main() { }");
        b.right("int f(int a) { switch (1) { int a; } } int main() { }");
        b.right("int f(int f) { return f; } int main() { int main; }");
        b.about("Names of structs are of their own, those of fields too, for each struct");
        b.right("struct a { int a; }; struct b { int a; int b; }; int a; int b; int main() { struct a a; struct b b; a.a = b.a = b.b; }");
        b.right("enum { a }; struct a { int a; };" + MAIN);
        b.fault(3, "struct a { int x; }; int main() { @a; }");
        b.fault(3, "struct a { int x; }; int main() { @x; }");
    }

    private static void twice(Bench b) {
        b.about("A name that is told again in its stretch: 4 AT it (but a function's, alike)");
        String[] first = {"int a;", "int a();", "int a() { }", "enum { a };", "char a[3];", "int x, a;"};
        String[] second = {"int @a;", "char @a[3];", "int x1, *@a;", "enum { @a };", "enum { c, @a };"};
        for (String one : first) {
            for (String two : second) {
                b.fault(4, one + " " + two + MAIN);
            }
        }
        for (String one : new String[] {"int a;", "enum { a };", "int a[2];"}) {
            b.fault(4, one + " int @a();" + MAIN);
            b.fault(4, one + " int @a(int c) { }" + MAIN);
        }
        b.right("int a(); int a(); int a() { } int a();" + MAIN);
        b.about("the text's stretch goes on behind a function");
        b.fault(4, "int a; int f(int c) { int a; } int @a;" + MAIN);
        b.fault(4, "enum { a }; void f() { { } } int g(int a); int @a;" + MAIN);
        b.fault(4, "void f() { } int @get;" + MAIN);
        b.fault(4, "int a; void f() { } int @a();" + MAIN);
        b.right("int a; int f() { return a; } int c; int g() { return a + c + f(); } int h() { return c + g(); }" + MAIN);
        b.right("void f() { for (int a; ; ) { int a; } } int a; void g() { int a; } int c; int h(int c) { return a + c; } int k() { return a + c; }" + MAIN);
        b.about("A name that is told again in its stretch: 4 AT it");
        for (String two : new String[] {"int @a;", "int x, @a;", "char @a[3];"}) {
            b.fault(4, "int main() { int a; " + two + " }");
            b.fault(4, "int main() { { int a; { int a; } " + two + " } }");
            b.fault(4, "int main() { switch (1) { int a; case 1: " + two + " } }");
            b.fault(4, "int f(int a) { " + two + " }" + MAIN);
        }
        b.fault(4, "int main() { for (int a, @a; ; ) ; }");
        b.fault(4, "int f(int a, char *@a);" + MAIN);
        b.fault(4, "struct A { int a; int @a; };" + MAIN);
        b.fault(4, "struct A { int a, b, @a; };" + MAIN);
        for (String own : new String[] {"get", "put", "halt"}) {
            b.fault(4, "int @" + own + ";" + MAIN);
            b.fault(4, "enum { @" + own + " };" + MAIN);
            b.right("struct " + own + " { int " + own + "; }; int f(int " + own + "); int main() { int " + own + "; }");
        }
    }

    /** A text of so many names. */
    private static String text(int count) {
        StringBuilder s = new StringBuilder("char ");
        for (int k = 0; k < count; k++) {
            s.append(k == 0 ? "" : ",").append((char) ('a' + k % 26)).append(k / 26);
        }
        return s.append(";").toString();
    }

    private static void names(Bench b) {
        b.about("More than 500 names in all (variables, functions each time, parameters each time, structs when their { is met, fields, enum's names): 12 AT it");
        b.right(text(499) + "int main(){}");
        b.fault(12, text(500) + "int @main(){}");
        // Each has one name more than what is ahead of its @; with main they are 500 and 501.
        String[][] kinds = {{"", "int @A;"}, {"", "int @A();"}, {"int A();", "int @A();"}, {"int A();", "int @A(){}"}, {"", "enum{@A};"}, {"enum{A,", "@B};"}, {"struct A{", "int @B;};"},
            {"struct A{int B;", "int @C[2];};"}, {"", "int *@A[2];"}, {"int f(){", "int @A;}"}, {"int f(){for(", "int @A;;);}"}, {"int f(){switch(1){", "int @A;}}"}};
        int[] ahead = {0, 0, 1, 1, 0, 1, 1, 2, 0, 1, 1, 1};
        for (int k = 0; k < kinds.length; k++) {
            int before = 500 - ahead[k];
            b.right(text(before - 2) + kinds[k][0] + kinds[k][1].replace("@", "") + "int main(){}");
            b.fault(12, text(before - 1) + kinds[k][0] + kinds[k][1].replace("@", "") + "int @main(){}");
            b.fault(12, text(before) + kinds[k][0] + kinds[k][1]);
        }
        // A struct and its field, a parameter and its function.
        b.right(text(497) + "struct A{int B;};int main(){}");
        b.fault(12, text(500) + "struct @A{int B;};");
        b.fault(12, text(499) + "struct A{int @B;};");
        b.right(text(497) + "int f(int A);int main(){}");
        b.fault(12, text(500) + "int f(int @A);");
        b.fault(12, text(499) + "int @f(int A);");
        b.right(text(495) + "int f(int A);int f(int A){}int main(){}");
        b.fault(12, text(498) + "int f(int A);int f(int @A){}");
        b.fault(12, text(497) + "int f(int A);int @f(int A){}");
        b.fault(12, text(496) + "int f(int A);int f(int A){}int @main(){}");
        // Where a struct is told without a { it is none, nor are get, put, halt, and names that are used.
        b.right(text(498) + "struct A*Z;int main(){put(get());}");
        b.right(text(499) + "int main(){a0=b0+c0;put(get());(struct A*)0;sizeof(struct B*);}");
    }

    private static void nameOrder(Bench b) {
        b.about("then the name (4, 12)");
        b.fault(4, text(500) + "int @a0;");
        b.fault(12, text(500) + "int @Z;");
        b.fault(4, text(500) + "enum{@a0};");
        b.fault(4, text(499) + "int f(int A,int @A);");
        b.fault(9, text(500) + "void @Z;");
        b.fault(8, text(500) + "int Z[@0];");
        b.fault(12, text(500) + "int @Z[9999];");
        b.fault(4, text(498) + "struct A{int B,@B;};");
        b.about("DECLS, ITEMS, S's and parts of an E are gone through from the left, what is around them behind them");
        b.fault(3, "int a = @x, a;" + MAIN);
        b.fault(3, "int main() { @x; y; }");
        b.fault(3, "int main() { @x + y; }");
        b.fault(3, "int main() { if (@x) y; else z; }");
        b.fault(3, "int main() { while (@x) y; }");
        b.fault(3, "int main() { do @x; while (y); }");
        b.fault(3, "int main() { for (@x; y; z) w; }");
        b.fault(3, "int main() { for (; @y; z) w; }");
        b.fault(3, "int main() { for (; ; @z) w; }");
        b.fault(3, "int main() { for (int a = @x; y; z) w; }");
        b.fault(3, "int main() { switch (@x) { case y: z; } }");
        b.fault(3, "int main() { switch (1) { case @y: z; } }");
        b.fault(3, "int main() { 1 ? @x : y; }");
        b.fault(3, "int main() { 1 = @x; }");
        b.fault(3, "int main() { \"a\" * @x; }");
        b.fault(5, "int main() { (\"a\" @* 2) + x; }");
        b.fault(3, "int main() { put(\"a\" + @x, 1); }");
    }

    private static void structs(Bench b) {
        b.about("struct: the NAME (told with { before: 4 AT it), FIELDS");
        b.fault(4, "struct A { int a; }; struct @A { int a; };" + MAIN);
        b.fault(4, "struct A { int a; }; struct @A { void a; };" + MAIN);
        b.right("struct A *a; struct A { int a; }; struct A b;" + MAIN);
        b.right("struct A { int a; }; struct B { int a; };" + MAIN);
        b.about("An ITEM, FIELD, PARAM: void or a struct that isn't complete, without STARS: 9 AT the NAME");
        for (String type : new String[] {"void", "struct N"}) {
            b.fault(9, type + " @a;" + MAIN);
            b.fault(9, type + " *b, @a;" + MAIN);
            b.fault(9, type + " @a[x];" + MAIN);
            b.fault(9, type + " @a = x;" + MAIN);
            b.fault(9, "struct A { " + type + " @a; };" + MAIN);
            b.fault(9, "int f(" + type + " @a);" + MAIN);
            b.fault(9, "int f(" + type + " @a[]);" + MAIN);
            b.fault(9, "int main() { " + type + " @a; }");
            b.fault(9, "int main() { for (" + type + " @a; ; ) ; }");
            b.right(type + " *a, **c[2]; struct A { " + type + " *a; }; int f(" + type + " *a, " + type + " **d); int main() { " + type + " *a; }");
        }
        b.about("9 AT the NAME comes ahead of the name's own faults");
        b.fault(9, "int a; void @a;" + MAIN);
        b.fault(9, "struct A { int a; void @a; };" + MAIN);
        b.fault(9, "int f(int a, void @a);" + MAIN);
    }

    private static void enums(Bench b) {
        b.about("enum: each E3 (its own faults, no constant one of an arithmetic type: 8 AT it), then the name");
        b.fault(3, "int A; enum { A = @x };" + MAIN);
        b.fault(8, "int A; enum { A = @A };" + MAIN);
        b.fault(4, "int A; enum { @A = 1 };" + MAIN);
        b.fault(8, "enum { A = @\"a\" };" + MAIN);
        b.fault(8, "enum { A = @(int *) 0 };" + MAIN);
        b.about("int; the first one 0, each further one 1 more, as a rule");
        WordFoundry x = b.fresh();
        Bench.cast(x, "enum { A, B, C = -1, D, E = 2147483647, F, G = 4294967295, H, I = 4294967295 };" + MAIN);
        int[] due = {0, 1, -1, 0, Integer.MAX_VALUE, Integer.MIN_VALUE, -1, 0, -1};
        for (int k = 0; k < due.length; k++) {
            b.due("enum's name " + k, x.thing(k, 1), due[k]);
        }
        b.ends(1, "enum { A = 4294967295 }; int main() { return A < 0; }");
        b.ends(4, "enum { A }; int main() { return sizeof A; }");
        b.ends(0, "enum { A = 7 }; enum { B }; int main() { return B; }");
    }

    private static void dims(Bench b) {
        b.about("DIMS: each E3 (8 AT it, if it isn't a constant arithmetic one, from 1 to 16384 as a number of its type)");
        for (String form : new String[] {"char a[%];", "struct A { char a[%]; };", "int f(char a[%]);", "int f(char a[2][%]);", "char a[%][1];", "char a[1][%];", "struct A { char b[1][%]; };"}) {
            for (String right : new String[] {"1", "2", "16384 / 2", "(unsigned) 1", "'\\t'"}) {
                b.right(form.replace("%", right) + MAIN);
            }
            for (String wrong : new String[] {"@0", "16384 @+ 1", "@16385", "@-1", "@4294967295", "@2147483648", "@2147483647", "@(unsigned) 0", "@(unsigned) 16385", "1 @- 1"}) {
                b.fault(8, form.replace("%", wrong) + MAIN);
            }
            b.fault(3, form.replace("%", "@x") + MAIN);
            b.fault(8, "int x; " + form.replace("%", "@x") + MAIN);
            b.fault(8, form.replace("%", "@\"a\"") + MAIN);
        }
        b.right("char a[16384]; int f(char a[16384], int b[16384], char c[1][16384]); struct A { char a[16384]; };" + MAIN);
        for (String wrong : new String[] {"@0", "@16385", "@-1"}) {
            b.fault(8, "int main() { char a[" + wrong + "]; }");
        }
        b.right("int main() { char a[1]; }");
        b.fault(8, "char a[@0][0];" + MAIN);
        b.fault(8, "char a[1][@0][-1];" + MAIN);
        b.fault(8, "int a; char a[@0];" + MAIN);
    }

    private static void empties(Bench b) {
        b.about("a [ ] that is empty: 9 at its [, but for the first one of a PARAM, and of an ITEM of the text that has an INIT");
        b.right("int f(int a[], int b[][2]); int c[] = {1}; int d[][2] = {{1}}; char e[] = \"a\";" + MAIN);
        b.fault(9, "int f(int a[2]@[]);" + MAIN);
        b.fault(9, "int f(int a[]@[]);" + MAIN);
        b.fault(9, "int a@[];" + MAIN);
        b.fault(9, "int a[2]@[] = {{1}};" + MAIN);
        b.fault(9, "int a[]@[] = {{1}};" + MAIN);
        b.fault(9, "int a = 1, b@[];" + MAIN);
        b.fault(9, "int b@[], a = 1;" + MAIN);
        b.fault(9, "struct A { int a@[]; };" + MAIN);
        b.fault(9, "int main() { int a@[]; }");
        b.fault(9, "int main() { int a@[] = {1}; }");
        b.fault(9, "int main() { char a@[] = \"a\"; }");
        b.fault(9, "int main() { for (int a@[] = {1}; ; ) ; }");
        b.fault(8, "int a[@0][];" + MAIN);
        b.fault(9, "int a@[][0];" + MAIN);
    }

    private static void sizes(Bench b) {
        b.about("sizes above 16384: 12 AT the NAME");
        b.right("int a[4096];" + MAIN);
        b.right("char a[128][128];" + MAIN);
        b.fault(12, "int @a[4097];" + MAIN);
        b.fault(12, "char @a[128][129];" + MAIN);
        b.fault(12, "struct A { int a[2]; }; struct A @d[2049];" + MAIN);
        b.right("struct A { int a[2]; }; struct A d[2048];" + MAIN);
        b.fault(12, "int @a[16384][16384][16384];" + MAIN);
        b.fault(12, "int *@a[4097];" + MAIN);
        b.fault(12, "int main() { int @a[4097]; }");
        b.about("of a PARAM, or when it is empty, without the first one");
        b.right("int f(int a[16384], int b[16384][4096], char c[][16384], int d[2][2][2048]);" + MAIN);
        b.fault(12, "int f(int @a[1][4097]);" + MAIN);
        b.fault(12, "int f(char @a[][2][8193]);" + MAIN);
        b.right("int f(char a[][2][8192]);" + MAIN);
        b.fault(12, "char @a[][2][8193] = {x};" + MAIN);
        b.right("char a[][2][8192] = {{{1}}};" + MAIN);
        b.about("of a struct so far, too");
        b.right("struct A { char a[16380]; int b; };" + MAIN);
        b.fault(12, "struct A { char a[16381]; int @b; };" + MAIN);
        b.right("struct A { char a[16383]; char b; };" + MAIN);
        b.fault(12, "struct A { char a[16384]; char @b; };" + MAIN);
        b.right("struct A { int a; char b[16380]; };" + MAIN);
        b.fault(12, "struct A { int a; char @b[16381]; };" + MAIN);
        b.fault(12, "struct A { char a[16000]; char @b[385], c; };" + MAIN);
        b.right("struct A { int a; char b[16379]; }; struct B { struct A a; };" + MAIN);
        b.fault(12, "struct A { int a; char b[16379]; }; struct B { struct A a; char @c; };" + MAIN);
        b.about("12 AT the NAME; then the name (4, 12)");
        b.fault(12, "int a; int @a[4097];" + MAIN);
        b.fault(12, "struct A { char a[16384]; char @a; };" + MAIN);
        b.fault(4, "int a; int @a[4096];" + MAIN);
        b.fault(12, "int main() { int a; int @a[4097]; }");
        b.fault(4, "int main() { int a; int @a[4096]; }");
        b.fault(12, "int main() { int @b[4096]; }");
        b.about("The first of a PARAM's DIMS makes it a pointer to the rest");
        b.ends(4, "int f(int a[3][5]) { return sizeof a; } int main() { return f(0); }");
        b.ends(20, "int f(int a[3][5]) { return sizeof *a; } int main() { return f(0); }");
        b.ends(4, "int f(int a[]) { a = 0; a++; return (int) a; } int main() { return f(0); }");
        b.fault(5, "int f(int a[3][5]) { a[0] @= 0; } int main() { }");
    }

    private static void params(Bench b) {
        b.about("a struct without STARS: 9 AT its NAME");
        b.fault(9, "struct A { int a; }; struct A @f();" + MAIN);
        b.fault(9, "struct N @f(int a, int a);" + MAIN);
        b.right("struct A { int a; }; struct A *f(); struct N **g();" + MAIN);
        b.about("then, not SCALAR: 9 AT the NAME; the 9th: 12 AT it");
        b.fault(9, "struct A { int a; }; int f(struct A @a);" + MAIN);
        b.right("struct A { int a; }; int f(struct A *a, struct A b[], struct A c[2]);" + MAIN);
        b.fault(4, "struct A { int a; }; int f(int a, struct A @a);" + MAIN);
        for (String end : new String[] {";", " { }"}) {
            b.right("int f(int a, int b, int c, int d, int e, int g, int h, int i)" + end + MAIN);
            b.fault(12, "int f(int a, int b, int c, int d, int e, int g, int h, int i, int @j)" + end + MAIN);
            b.fault(12, "int f(int a, int b, int c, int d, int e, int g, int h, int i, int @j, int a)" + end + MAIN);
            b.fault(4, "int f(int a, int b, int c, int d, int e, int g, int h, int i, int @a)" + end + MAIN);
        }
        b.ends(87654321, "int f(int a, int b, int c, int d, int e, int g, int h, int i) { return a + 10 * (b + 10 * (c + 10 * (d + 10 * (e + 10 * (g + 10 * (h + 10 * i)))))); } "
            + "int main() { return f(1, 2, 3, 4, 5, 6, 7, 8); }");
    }

    private static void functions(Bench b) {
        b.about("then the function's name: a variable's, an enum's, get, put, halt: 4");
        for (String own : new String[] {"get", "put", "halt"}) {
            b.fault(4, "int @" + own + "();" + MAIN);
            b.fault(4, "void @" + own + "(int a) { }" + MAIN);
        }
        b.fault(3, "int a; int a(int c[@x]);" + MAIN);
        b.about("told before with another type of value, other PARAMS (types, number): 5");
        b.fault(5, "int f(); char @f();" + MAIN);
        b.fault(5, "int f(); unsigned @f();" + MAIN);
        b.fault(5, "int f(); void @f();" + MAIN);
        b.fault(5, "int *f(); int @f();" + MAIN);
        b.fault(5, "int f(); int @f(int a);" + MAIN);
        b.fault(5, "int f(int a); int @f();" + MAIN);
        b.fault(5, "int f(int a, int c); int @f(int a, char c);" + MAIN);
        b.fault(5, "int f(int *a); int @f(int **a);" + MAIN);
        b.fault(5, "int f(struct A *a); int @f(struct B *a);" + MAIN);
        b.fault(5, "int f(int a[][2]); int @f(int a[][3]);" + MAIN);
        b.fault(5, "int f() { } int @f(int a) { }" + MAIN);
        b.right("int f(int *a, struct A *b, char c[][3]); int f(int x[9], struct A *y, char z[5][3]) { }" + MAIN);
        b.about("with a BLOCK before, and now: 4");
        b.fault(4, "int f() { } int @f() { }" + MAIN);
        b.right("int f() { } int f();" + MAIN);
        b.right("int f(); int f() { }" + MAIN);
        b.fault(4, "int f(); int f() { } int f(); int @f() { x; }" + MAIN);
        b.about("the 61st name of a function (get, put, halt aside): 12 AT it");
        StringBuilder many = new StringBuilder();
        for (int k = 0; k < 59; k++) {
            many.append("int f").append(k).append("();");
        }
        b.right(many + "int main(){put(get());}");
        b.right(many + "int main(){}int f0();int f0(){}int f58(){}");
        b.fault(12, many + "int main(){}int @g();");
        b.fault(12, many + "int g();int @main(){}");
        b.fault(12, many + "int f0();int main(){}int f1(){}int @g(){x;}");
        b.fault(4, many + "int main(){}int v;int @v();");
        b.fault(4, many + "int main(){}int @get();");
    }

    private static void initials(Bench b) {
        b.about("for an arithmetic type a constant arithmetic E2 (its own faults, no arithmetic one: 5 AT it, no constant: 8 AT it)");
        for (String type : new String[] {"int", "char", "unsigned"}) {
            b.right(type + " a = 1 + 2, b = -1, c = 'x', d = 4294967295;" + MAIN);
            b.fault(3, type + " a = 1 + @x;" + MAIN);
            b.fault(5, type + " a = @\"x\";" + MAIN);
            b.fault(5, "int x; " + type + " a = @&x;" + MAIN);
            b.fault(5, "int x[2]; " + type + " a = @x;" + MAIN);
            b.fault(5, "void f(); " + type + " a = f@();" + MAIN);
            b.fault(8, "int x; " + type + " a = @x;" + MAIN);
            b.fault(8, "int f(); " + type + " a = f@();" + MAIN);
            b.fault(5, type + " a = @{1};" + MAIN);
        }
        b.about("for a pointer one that FITS (else 5 AT it) and is NULL, a STRING, a variable of the text with & or (an array) without (else 8 AT it)");
        String ahead = "int i; int a[3]; int m[2][3]; int *p; char c; struct S { int x; }; struct S s; int f(); ";
        b.right(ahead + "int *x1 = 0, *x2 = &i, *x3 = a, *x4 = '\\0'; char *x5 = \"a\", *x6 = &c; void *x7 = \"a\", *x8 = &m, *x9 = m, *xa = &p, *xb = &s; struct S *xc = &s; int **xd = &p;" + MAIN);
        for (String wrong : new String[] {"@1", "@c", "@i", "@&c", "@\"a\"", "@&a", "@m", "@&s", "@s", "@&p", "@(unsigned) 0", "f@()"}) {
            b.fault(5, ahead + "int *x = " + wrong + ";" + MAIN);
        }
        for (String wrong : new String[] {"@p", "a @+ 1", "@&a[0]", "m@[0]", "@(int *) 0", "@(int *) &i", "@(void *) 0", "@*m", "@&s.x", "@&*p", "(0@, a)", "1 @? a : a", "p @= 0", "p@++"}) {
            b.fault(8, ahead + "int *x = " + wrong + ";" + MAIN);
        }
        b.fault(8, "char *x = \"abc\" @+ 1;" + MAIN);
        b.fault(8, "char *x = @&\"abc\"[0];" + MAIN);
        b.fault(3, ahead + "int *x = @y;" + MAIN);
        b.about("for an array of char a STRING with a 0 behind, which isn't gone through then (too long: 5 AT it)");
        b.right("char a[4] = \"abc\"; char c[1] = \"\"; char d[201] = \"" + "x".repeat(200) + "\"; char e[2][4] = {\"abc\", \"d\"};" + MAIN);
        b.fault(5, "char a[3] = @\"abc\";" + MAIN);
        b.fault(5, "char a[200] = @\"" + "x".repeat(200) + "\";" + MAIN);
        b.fault(5, "char e[2][4] = {\"abc\", @\"abcd\"};" + MAIN);
        b.fault(5, "int a[4] = @\"abc\";" + MAIN);
        b.due("DATA has it once", dataEnd("char a[4] = \"abc\";" + MAIN), 68);
        b.due("DATA has a pointer's, too", dataEnd("char *a = \"abc\";" + MAIN), 72);
        b.about("for arrays and structs { } with an INIT for each of the first ones (one too many: 5 AT it)");
        String s = "struct S { int x; char y[2]; }; ";
        b.right(s + "int a[2] = {1, 2}; int c[2] = {1}; struct S d = {1, {2, 3}}; struct S e = {1, \"a\"}; struct S f[2] = {{1}, {2}}; struct S g = {1};" + MAIN);
        b.fault(5, s + "int a[2] = {1, 2, @3};" + MAIN);
        b.fault(5, s + "int a[1] = {1, @{3}};" + MAIN);
        b.fault(5, s + "struct S d = {1, {2, 3}, @4};" + MAIN);
        b.fault(5, s + "struct S d = {1, {2, 3, @4}};" + MAIN);
        b.fault(5, s + "struct S d = {1, @\"ab\"};" + MAIN);
        b.fault(5, s + "struct S f[2] = {{1}, {2}, @{3}};" + MAIN);
        b.fault(5, s + "struct S f[2] = {{1}, {2, {3}, @4}};" + MAIN);
        b.about("{ } for a scalar, an E2 for others: 5 AT it");
        b.fault(5, s + "int a = @{1};" + MAIN);
        b.fault(5, s + "int *a = @{0};" + MAIN);
        b.fault(5, s + "int a[2] = {1, @{2}};" + MAIN);
        b.fault(5, s + "int a[2] = @1;" + MAIN);
        b.fault(5, s + "int a[2][2] = {@1};" + MAIN);
        b.fault(5, s + "struct S a = @1;" + MAIN);
        b.fault(5, s + "struct S z; struct S a = @z;" + MAIN);
        b.fault(5, s + "struct S a = {1, @2};" + MAIN);
        b.about("What is not told is 0");
        WordFoundry x = b.fresh();
        Bench.cast(x, "char a[6] = \"ab\"; char c[3] = {7}; struct S { char x; int y; }; struct S d[2] = {{1}}; int e; int main() { }");
        x.begin(1024);
        int[] due = {'a', 'b', 0, 0, 0, 0, 7, 0, 0, 0, 0, 0, 1, 0, 0, 0, 0, 0, 0, 0, 0, 0, 0, 0, 0, 0, 0, 0, 0, 0, 0, 0};
        for (int k = 0; k < due.length; k++) {
            b.due("byte " + (64 + k), x.peek(64 + k), due[k]);
        }
    }

    private static int dataEnd(String text) {
        WordFoundry x = new WordFoundry();
        Bench.cast(x, text);
        return x.look(8);
    }

    private static void count(Bench b, String text, int size) {
        WordFoundry x = b.fresh();
        b.due(text, Bench.cast(x, text + MAIN), 0);
        b.due("size of " + text, x.thing(0, 2), size);
    }

    private static void openArrays(Bench b) {
        b.about("An empty [ ] has as many as its INIT's form tells (a STRING's signs and 1, its INITS; else none)");
        count(b, "char a[] = \"\";", 1);
        count(b, "char a[] = \"abc\";", 4);
        count(b, "char a[] = \"a\\n\\0\";", 4);
        count(b, "char a[] = {'a'};", 1);
        count(b, "int a[] = {1, 2, 3};", 12);
        count(b, "int a[][3] = {{1}, {1, 2, 3}};", 24);
        count(b, "char a[][4] = {\"abc\", \"\", {1}};", 12);
        count(b, "char *a[] = {\"abc\", \"\"};", 8);
        b.fault(5, "int a[] = @1;" + MAIN);
        b.fault(5, "int a[] = @x;" + MAIN);
        b.fault(5, "int a[] = @\"abc\";" + MAIN);
        b.fault(5, "char a[][2] = @\"abc\";" + MAIN);
        b.about("12 AT the NAME (size, then its place) ahead of the INIT's meaning");
        b.right("char a[][8192] = {{1}, {2}};" + MAIN);
        b.fault(12, "char @a[][8192] = {x, y, z};" + MAIN);
        b.fault(12, "char @a[][5462] = {x, y, z};" + MAIN);
        b.right("char a[][5461] = {{1}, {2}, {3}};" + MAIN);
        String full = "char z[16384]; char y[16316]; ";
        b.right(full + "char a[] = {1, 2, 3, 4};" + MAIN);
        b.right(full + "int a[] = {1};" + MAIN);
        b.fault(12, full + "char @a[] = {1, 2, 3, 4, x};" + MAIN);
        b.fault(12, full + "int @a[] = {1, x};" + MAIN);
        b.right(full + "char a[] = \"abc\";" + MAIN);
        b.fault(12, full + "char @a[] = \"abcd\";" + MAIN);
        b.fault(3, full + "char a[] = {1, 2, 3, @x};" + MAIN);
        b.fault(4, full + "char @z[] = {1, 2, 3, 4, 5};" + MAIN);
    }

    private static void locals(Bench b) {
        b.about("INIT of a LOCAL: an E2 that FITS, or of its own struct (5 AT it; of more than 32 bytes: 12 AT it)");
        String s = "struct S { char c[32]; }; struct L { char c[33]; }; struct W { int a[8]; }; struct V { int a[8]; char c; }; struct S s; struct L l; struct W w; struct V v; ";
        b.right(s + "int main() { struct S a = s, b = (1, a); struct W c = w, d = *&c; }");
        b.fault(12, s + "int main() { struct L a = @l; }");
        b.fault(12, s + "int main() { struct V a = @v; }");
        b.fault(12, s + "int main() { struct V a = (1@, v); }");
        b.fault(5, s + "int main() { struct S a = @l; }");
        b.fault(5, s + "int main() { struct L a = @s; }");
        b.fault(5, s + "int main() { struct L a = @1; }");
        b.fault(5, s + "int main() { struct S a = @&s; }");
        b.fault(5, s + "int main() { int a = @s; }");
        b.fault(3, s + "int main() { struct L a = @x; }");
        b.about("{ } and INITS of arrays: 9 AT it");
        b.fault(9, s + "int main() { int a = @{1}; }");
        b.fault(9, s + "int main() { int a[1] = @{1}; }");
        b.fault(9, s + "int main() { int a[1] = @1; }");
        b.fault(9, s + "int main() { int a[1] = @x; }");
        b.fault(9, s + "int main() { char a[2] = @\"a\"; }");
        b.fault(9, s + "int main() { struct S a = @{x}; }");
        b.fault(9, s + "int main() { for (int a[1] = @{1}; ; ) ; }");
    }

    private static void conditions(Bench b) {
        b.about("E's of if, while, do, for, ? are SCALAR (5 AT E; of ?: at it), of switch arithmetic (5 AT it)");
        for (String right : new String[] {"i", "c", "u", "p", "v", "n", "arr", "\"a\"", "&s", "E0"}) {
            b.rightIn("if (" + right + ") ; while (" + right + ") break; do break; while (" + right + "); for (; " + right + "; ) break; " + right + " ? 1 : 2; !" + right + ";");
        }
        for (String wrong : new String[] {"@s", "@*ps", "vf@()", "@(void) 1", "s @= s", "(1@, s)"}) {
            b.faultIn(5, "if (" + wrong + ") x;");
            b.faultIn(5, "while (" + wrong + ") x;");
            b.faultIn(5, "do ; while (" + wrong + ");");
            b.faultIn(5, "for (; " + wrong + "; x) x;");
            b.faultIn(5, "switch (" + wrong + ") { case x: ; }");
            b.faultIn(5, "(" + wrong.replace("@", "") + ") @? x : y;");
            // Only what is asked for a truth has to be SCALAR.
            b.rightIn("for (" + wrong.replace("@", "") + "; ; " + wrong.replace("@", "") + ") break; " + wrong.replace("@", "") + ";");
        }
        for (String right : new String[] {"i", "c", "u", "E0", "i + 1", "*p"}) {
            b.rightIn("switch (" + right + ") { }");
        }
        for (String wrong : new String[] {"@p", "@arr", "@\"a\"", "@v", "@&i"}) {
            b.faultIn(5, "switch (" + wrong + ") { case x: ; }");
        }
    }

    private static void labels(Bench b) {
        b.about("case: a constant arithmetic one (8 AT it), as 32 bits told before in this switch: 10 AT it");
        b.rightIn("switch (i) { case 1: case 2: case -1: case 'a': case E0: case 4294967294: ; }");
        b.faultIn(10, "switch (i) { case 1: case 2: case @1: ; }");
        b.faultIn(10, "switch (i) { case -1: case @4294967295: ; }");
        b.faultIn(10, "switch (i) { case 0x80000000: case -2147483647 @- 1: ; }");
        b.faultIn(10, "switch (c) { case 97: case @'a': ; }");
        b.faultIn(10, "switch (c) { case 0: case @E0: ; }");
        b.rightIn("switch (c) { case 1: case 257: ; }");
        b.rightIn("switch (i) { case 1: switch (i) { case 1: ; } case 2: ; }");
        b.faultIn(10, "switch (i) { case 1: switch (i) { case 1: ; } case @1: ; }");
        b.rightIn("switch (i) { case 1: ; } switch (i) { case 1: ; }");
        b.faultIn(8, "switch (i) { case 1: case @i: ; }");
        b.about("a second default: 10 at it");
        b.rightIn("switch (i) { default: case 1: ; } switch (i) { default: switch (i) { default: ; } }");
        b.faultIn(10, "switch (i) { default: case 1: @default: ; }");
        b.faultIn(10, "switch (i) { default: switch (i) { default: ; } @default: ; }");
    }

    private static void jumps(Bench b) {
        b.about("break outside of loops and switches, continue outside of loops: 9");
        for (String around : new String[] {"while (1) %", "do % while (1);", "for (;;) %", "while (1) { { if (1) % } }", "while (1) switch (1) { case 1: % }"}) {
            b.rightIn(around.replace("%", "break;"));
            b.rightIn(around.replace("%", "continue;"));
        }
        b.rightIn("switch (1) { break; case 1: { break; } }");
        b.faultIn(9, "switch (1) { @continue; }");
        b.faultIn(9, "@break;");
        b.faultIn(9, "@continue;");
        b.faultIn(9, "if (1) @break; else ;");
        b.faultIn(9, "{ @continue; }");
        for (String ahead : new String[] {"while (1) ;", "do ; while (1);", "for (;;) ;", "switch (1) { }"}) {
            b.faultIn(9, ahead + " @break;");
            b.faultIn(9, ahead + " @continue;");
        }
        b.fault(9, "int f() { while (1) ; } int main() { @break; }");
    }

    private static void returns(Bench b) {
        b.about("return with an E in a void function, without one in another: 9 at it; then E, which FITS (5 AT it)");
        b.right("void f() { return; } int main() { return 1; }");
        b.fault(9, "void f() { @return x; }" + MAIN);
        b.fault(9, "void g() { } void f() { @return g(); }" + MAIN);
        for (String type : new String[] {"int ", "char ", "unsigned ", "int *", "void *"}) {
            b.fault(9, type + "f() { @return; }" + MAIN);
            b.fault(3, type + "f() { return @x; }" + MAIN);
            b.right(type + "f() { return 0; }" + MAIN);
            b.right(type + "f() { }" + MAIN);
        }
    }

    private static void copies(Bench b) {
        b.about("both of one struct (it is void then; of more than 32 bytes: 12), else 5");
        String s = "struct S { char c[32]; }; struct L { char c[33]; }; struct W { int a[8]; }; struct V { int a[8]; char c; }; struct S s; struct L l; struct W w; struct V v; ";
        b.right(s + "int main() { s = s; w = w; s = (1, s); }");
        b.fault(12, s + "int main() { l @= l; }");
        b.fault(12, s + "int main() { v @= v; }");
        b.fault(12, s + "int main() { v @= (1, v); }");
        b.fault(5, s + "int main() { l @= v; }");
        b.fault(5, s + "int main() { s @= l; }");
        b.fault(5, s + "int main() { l @= 1; }");
        b.fault(5, s + "int main() { int i; i @= (s = s); }");
        b.fault(9, s + "int main() { @sizeof (s = s); }");
    }

    private static void frames(Bench b) {
        b.about("its size F is rounded up to 4; above 8192: 12 AT the NAME");
        b.right("int main() { char a[8192]; }");
        b.fault(12, "int main() { char @a[8193]; }");
        b.right("int main() { char a[8188]; int c; }");
        b.fault(12, "int main() { char a[8189]; int @c; }");
        b.right("int main() { char a[8191]; char c; }");
        b.fault(12, "int main() { char a[8191]; char c, @d; }");
        b.right("int f(int a, char c) { char d[8187]; }" + MAIN);
        b.fault(12, "int f(int a, char c) { char @d[8188]; }" + MAIN);
        b.fault(12, "int main() { { char a[5000]; } { char @c[5000]; } }");
        b.fault(12, "int main() { for (char a[8192]; ; ) for (char @c; ; ) ; }");
        b.fault(12, "int main() { char a[8192]; char @c = x; }");
        b.fault(4, "int main() { char a[8192]; char @a; }");
        b.right("int f() { char a[8192]; } int g() { char a[8192]; } int main() { char a[8192]; }");
        for (int bytes = 1; bytes <= 9; bytes++) {
            WordFoundry x = b.fresh();
            Bench.cast(x, "int main() { char a[" + bytes + "]; }");
            b.due("F of " + bytes, x.thing(0, 2), (bytes + 3) / 4 * 4);
        }
        b.about("PARAMS, then others as the text has them; each the next one at which it is aligned");
        WordFoundry x = b.fresh();
        Bench.cast(x, "int f(char a, int b, char c) { char d; { int e; char g; } for (char h; ; ) { int i; } switch (1) { char j; } char k[5]; int l; }" + MAIN);
        int[] due = {0, 4, 8, 9, 12, 16, 17, 20, 24, 25, 32};
        for (int k = 0; k < due.length; k++) {
            b.due("variable " + k, x.local(0, k, 0), due[k]);
        }
        b.due("F", x.thing(0, 2), 36);
    }

    private static void places(Bench b) {
        b.about("Variables of the text lie likewise from 64 on; behind 32768: 12 AT the NAME");
        String full = "char a[16384]; char c[16312]; ";
        WordFoundry x = b.fresh();
        Bench.cast(x, full + "char d; int e;" + MAIN);
        int[] due = {64, 64 + 16384, 32760, 32764};
        for (int k = 0; k < due.length; k++) {
            b.due("variable " + k, x.thing(k, 1), due[k]);
        }
        b.due("the end of DATA", x.look(8), 32768);
        b.right(full + "char d[8];" + MAIN);
        b.fault(12, full + "char @d[9];" + MAIN);
        b.right(full + "int d[2];" + MAIN);
        b.fault(12, full + "int d[2]; char @e;" + MAIN);
        b.right(full + "char d[4]; int e;" + MAIN);
        b.fault(12, full + "char d[5]; int @e;" + MAIN);
        b.right(full + "char d[7]; char e;" + MAIN);
        b.fault(12, full + "char d[8]; char @e = x;" + MAIN);
        b.fault(4, full + "char d[8]; char @d;" + MAIN);
    }

    private static void missing(Bench b) {
        b.about("END: the first CALL (by its NAME's place) of a function without a BLOCK: 11 AT its NAME");
        b.fault(11, "int f(); int g(); int main() { @g(); f(); }");
        b.fault(11, "int f(int a); int g(); int main() { @f(g()); }");
        b.fault(11, "int f(int a); int g() { } int main() { g(); @f(g()); }");
        b.fault(11, "int f(); int h() { 0 && @f(); } int main() { }");
        b.fault(11, "int f(); int h() { sizeof @f(); }");
        b.fault(11, "int f(); int x[sizeof @f()];");
        b.right("int f(); int main() { f(); } int f() { }");
        b.right("int f();" + MAIN);
        b.about("no function main with a BLOCK, without PARAMS, of int or void: 11 at the text's length");
        b.right("int main() { }");
        b.right("void main() { }");
        b.right("int main(void) { }");
        for (String text : new String[] {"", " ", "int a;", "int main;", "int main();", "void main(void);", "char main() { }", "unsigned main() { }", "int *main() { }", "void *main() { }",
            "int main(int a) { }", "void main(int a, int c) { }", "enum { main };", "struct main { int main; };", "int Main() { }", "int mai() { } // main() {", "int f() { int main; }"}) {
            b.fault(11, text + "@");
            b.fault(11, text + "\n @");
        }
    }

    private static void strings(Bench b) {
        b.about("STRINGS (but those that are INITS of arrays of char), as the text has them, each with a 0, lie behind the variables of the text");
        WordFoundry x = b.fresh();
        Bench.cast(x, "char *p = \"a\"; char q[] = \"b\"; char *r[2] = {\"cd\", \"e\"}; int main() { \"f\"; sizeof \"g\"; char *z = 0 ? \"\" : \"h\"; return z - p; } char last = 'l';");
        x.begin(1024);
        // p 64, q 68 and 69, r 72 to 79, last 80, then the STRINGS.
        String due = "a\0cd\0e\0f\0g\0\0h\0";
        for (int k = 0; k < due.length(); k++) {
            b.due("sign " + k, x.peek(81 + k), due.charAt(k));
        }
        b.due("p", x.peek(64), 81);
        b.due("r[0]", x.peek(72), 83);
        b.due("r[1]", x.peek(76), 86);
        b.about("DATA end at the next multiple of 4");
        b.due("the end of DATA", x.look(8), 96);
        b.due("none", dataEnd("int main() { }"), 64);
        b.due("one byte", dataEnd("char a;" + MAIN), 68);
        b.due("four bytes", dataEnd("char a[4];" + MAIN), 68);
        b.due("five bytes", dataEnd("char a[5];" + MAIN), 72);
        b.due("a STRING of three", dataEnd("int main() { \"abc\"; }"), 68);
        b.due("a STRING of four", dataEnd("int main() { \"abcd\"; }"), 72);
        b.about("behind 32768: 12 AT it");
        String full = "char a[16384]; char c[16317]; ";
        b.right(full + "int main() { \"ab\"; }");
        b.right(full + "int main() { \"\"; \"a\"; }");
        b.fault(12, full + "int main() { @\"abc\"; }");
        b.fault(12, full + "int main() { \"ab\"; @\"\"; }");
        b.fault(12, full + "int main() { \"a\"; sizeof @\"a\"; \"\"; }");
        b.fault(12, full + "int main() { return \"ab\"[0] + @\"a\"[0]; }");
        b.fault(11, full + "int f(); int main() { \"abc\"; @f(); }");
        b.fault(11, full + "int f() { \"abc\"; }@");
        b.due("up to the last byte", dataEnd(full + "int main() { \"ab\"; }"), 32768);
    }
}
