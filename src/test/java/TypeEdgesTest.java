/** Terms 3, TYPES, and what FITS, sentence by sentence. */
public final class TypeEdgesTest {
    public static void main(String[] args) {
        Bench b = new Bench();
        bytes(b);
        aligned(b);
        complete(b);
        values(b);
        constants(b);
        zeros(b);
        nulls(b);
        fits(b);
        b.close();
    }

    private static void bytes(Bench b) {
        b.about("char (0 to 255) has 1 byte");
        b.ends(255, "int main() { char c = 255; return c; }");
        b.ends(0, "int main() { char c = 256; return c; }");
        b.ends(255, "int main() { char c = -1; return c; }");
        b.ends(0, "int main() { char c = 255; c++; return c; }");
        b.ends(255, "int main() { char c = 0; c--; return c; }");
        b.ends(1, "int main() { char c = 200; return c > 0; }");
        b.about("int (-2^31 to 2^31 - 1), unsigned (0 to 2^32 - 1)");
        b.ends(Integer.MIN_VALUE, "int main() { int i = 2147483647; i++; return i; }");
        b.ends(Integer.MAX_VALUE, "int main() { int i = -2147483647 - 1; i--; return i; }");
        b.ends(1, "int main() { int i = 2147483647; return i > 0 && i + 1 < 0; }");
        b.ends(0, "int main() { unsigned u = 4294967295; u++; return u; }");
        b.ends(1, "int main() { unsigned u = 0; u--; return u == 4294967295 && u > 0; }");
        b.about("and POINTERS have 4, the lowest one first");
        WordFoundry x = b.fresh();
        Bench.cast(x, "int i = 0x01020304; unsigned u = 0xa1a2a3a4; int *p = &i; int main() { i = 0x05060708; *(unsigned *) 76 = 0xb1b2b3b4; char c = *((char *) &i + 3); return c; }");
        x.begin(1024);
        int[] due = {4, 3, 2, 1, 0xa4, 0xa3, 0xa2, 0xa1, 64, 0, 0, 0};
        for (int k = 0; k < due.length; k++) {
            b.due("byte " + (64 + k), x.peek(64 + k), due[k]);
        }
        x.go(1);
        int[] then = {8, 7, 6, 5, 0xa4, 0xa3, 0xa2, 0xa1, 64, 0, 0, 0, 0xb4, 0xb3, 0xb2, 0xb1};
        for (int k = 0; k < then.length; k++) {
            b.due("then byte " + (64 + k), x.peek(64 + k), then[k]);
        }
        b.due("the highest one", x.look(2), 5);
        String[] types = {"char", "int", "unsigned", "char *", "void *", "struct N *", "int **"};
        for (String type : types) {
            b.ends(type.equals("char") ? 1 : 4, "int main() { " + type + " x; return sizeof x; }");
            b.ends(type.equals("char") ? 1 : 4, "int main() { return sizeof (" + type + "); }");
        }
    }

    /** The places of a struct's fields, then its size. */
    private static void laid(Bench b, String fields, int... due) {
        WordFoundry x = b.fresh();
        b.due(fields, Bench.cast(x, "struct I { char a; int b; }; struct C { char a; char b[2]; }; struct A { " + fields + " }; int main() { }"), 0);
        for (int k = 0; k < due.length; k++) {
            b.due("place " + k + " of " + fields, x.layout(2, k == due.length - 1 ? -1 : k), due[k]);
        }
    }

    private static void aligned(Bench b) {
        b.about("ALIGNED is what lies at a multiple of 4 (char: of 1), an array as its elements, a struct as its most aligned field");
        laid(b, "char a; int b;", 0, 4, 8);
        laid(b, "char a[3]; int b;", 0, 4, 8);
        laid(b, "char a[4]; int b;", 0, 4, 8);
        laid(b, "char a[5]; int b;", 0, 8, 12);
        laid(b, "char a; char b;", 0, 1, 2);
        laid(b, "char a; char b[3];", 0, 1, 4);
        laid(b, "char a; int b[3];", 0, 4, 16);
        laid(b, "char a; unsigned b; char c; char *d;", 0, 4, 8, 12, 16);
        laid(b, "char a; struct I b;", 0, 4, 12);
        laid(b, "char a; struct C b;", 0, 1, 4);
        laid(b, "char a; struct C b[3]; char c;", 0, 1, 10, 11);
        laid(b, "char a; struct I b[2]; char c;", 0, 4, 20, 24);
        b.about("its size is rounded up so");
        laid(b, "int a; char b;", 0, 4, 8);
        laid(b, "int a; char b[4];", 0, 4, 8);
        laid(b, "int a; char b[5];", 0, 4, 12);
        laid(b, "char a[5];", 0, 5);
        laid(b, "char a[2][3];", 0, 6);
        laid(b, "struct C a; char b;", 0, 3, 4);
        laid(b, "struct I a; char b;", 0, 8, 12);
        b.about("An array: its elements one behind the other");
        b.ends(24, "struct I { char a; int b; }; struct I x[3]; int main() { return sizeof x; }");
        b.ends(9, "struct C { char a; char b[2]; }; struct C x[3]; int main() { return sizeof x; }");
        b.ends(8, "struct I { char a; int b; }; struct I x[3]; int main() { return (char *) &x[1] - (char *) x; }");
        b.ends(3, "struct C { char a; char b[2]; }; struct C x[3]; int main() { return (char *) &x[1] - (char *) x; }");
        b.ends(20, "char x[4][5]; int main() { return sizeof x; }");
    }

    private static void complete(Bench b) {
        b.about("A struct is COMPLETE from its } on; a TYPE struct NAME may be told ahead of that");
        b.fault(9, "struct A { struct A @a; }; int main() { }");
        b.fault(9, "struct A { int x; struct A @a[2]; }; int main() { }");
        b.fault(9, "struct A { int x; char y[@sizeof (struct A)]; }; int main() { }");
        b.right("struct A { struct A *a; struct A **b[2]; char y[sizeof (struct A *)]; }; int main() { }");
        b.right("struct A { int x; }; struct B { struct A a; char y[sizeof (struct A)]; }; int main() { }");
        b.fault(9, "struct A *p; struct A @a; struct A { int x; }; int main() { }");
        b.fault(9, "struct A *p; int f() { return p@->x; } struct A { int x; }; int main() { }");
        b.right("struct A *p; struct A { int x; }; int f() { return p->x; } int main() { }");
        b.right("struct A *f(struct A *p); struct A { int x; }; struct A *f(struct A *p) { return p + 1; } int main() { }");
        b.fault(9, "struct A *f(struct A *p) { return p @+ 1; } struct A { int x; }; int main() { }");
        b.right("int main() { struct Never *p = 0; return p == 0; }");
    }

    /** Whether BOTH of two types is unsigned shows in 0 - 1 < 0. */
    private static void values(Bench b) {
        String[] types = {"char", "int", "unsigned"};
        b.about("BOTH of two arithmetic ones: unsigned if one is, else int");
        for (String left : types) {
            for (String right : types) {
                boolean unsigned = left.equals("unsigned") || right.equals("unsigned");
                String made = "int main() { " + left + " a = 0; " + right + " d = 1; ";
                b.ends(unsigned ? 0 : 1, made + "return a - d < 0; }");
                b.ends(unsigned ? 0 : 1, made + "return a - d < a; }");
                b.ends(unsigned ? 1 : 0, made + "return (1 ? a : d) - 1 > 0; }");
                b.ends(left.equals("unsigned") ? 1 : 0, made + "return (a << d) - 1 > 0; }");
                b.ends(left.equals("unsigned") ? 1 : 0, made + "return (a >> d) - 1 > 0; }");
                b.ends(unsigned ? 1 : 0, made + "return (a & d) - 1 > 0 && (a ^ a & d) - 1 > 0 && (a * d) - 1 > 0 && (a / d) - 1 > 0 && (a % d) - 1 > 0; }");
            }
            b.ends(left.equals("unsigned") ? 1 : 0, "int main() { " + left + " a = 1; return -a > 0; }");
            b.ends(left.equals("unsigned") ? 1 : 0, "int main() { " + left + " a = 1; return ~a > 0; }");
            b.ends(0, "int main() { " + left + " a = 1; return !a - 1 > 0; }");
        }
        b.about("What comes into a char has its lowest byte, what comes into int or unsigned the same 32 bits");
        b.ends(0x78, "int main() { char c = 0x12345678; return c; }");
        b.ends(0x80, "int main() { char c; c = 0xffffff80; return c; }");
        b.ends(0xff, "char f(int i) { return i; } int main() { return f(-1); }");
        b.ends(0, "int f(char c) { return c; } int main() { return f(256); }");
        b.ends(0xff, "int main() { return (char) 0x1ff; }");
        b.ends(-1, "int main() { int i = 4294967295; return i; }");
        b.ends(1, "int main() { unsigned u = -1; return u == 0xffffffff; }");
        b.ends(-1, "int main() { return (int) (unsigned) -1; }");
        b.ends(-4, "int main() { int *p = (int *) -4; return (int) p; }");
        b.about("An array (but for &, sizeof) is a pointer to its first element");
        b.ends(1, "int a[3]; int main() { int *p = a; return p == a && p == &a[0] && *a == a[0] && (a ? 1 : 0) && !a == 0; }");
        b.ends(12, "int a[3]; int main() { return sizeof a; }");
        b.ends(4, "int a[3]; int main() { return sizeof (a + 0); }");
        b.ends(12, "int a[3]; int main() { return (char *) (&a + 1) - (char *) a; }");
        b.ends(4, "int a[3]; int main() { return (char *) (a + 1) - (char *) a; }");
    }

    private static void constants(Bench b) {
        b.about("CONSTANT are NUMBERS, enum's names, sizeof, and what - ~ ! * / % + - << >> < > <= >= == != & ^ | && || ? : and CASTS to arithmetic types make of constant ones alone");
        String ahead = "enum { K = 3 }; int i; int a[2]; struct S { int a; }; struct S s; int f() { } ";
        String[] right = {"1", "'a'", "K", "sizeof i", "sizeof (int)", "sizeof f()", "-(-K)", "~-K", "!0", "2 * 3", "7 / 2", "7 % 4", "1 + 1", "3 - 1", "1 << 2", "9 >> 1", "2 > 1", "1 < 2", "1 <= 1",
            "1 >= 1", "1 == 1", "1 != 2", "3 & 1", "3 ^ 1", "3 | 4", "1 && 2", "0 || 1", "1 ? 2 : 3", "(int) 5", "(char) 5", "(unsigned) 5", "(K)", "-(1 ? K : 1) + 9"};
        for (String e : right) {
            b.right(ahead + "int x[" + e + "]; enum { B = " + e + " }; int g = " + e + "; int main() { switch (1) { case " + e + ": ; } }");
        }
        String[] wrong = {"@i", "@-i", "1 @+ i", "i @* 0", "1 @|| i", "0 @&& i", "1 @? 2 : i", "i @? 2 : 3", "0 @? i : 3", "(1@, 2)", "f@()", "i@++", "@++i", "(i @= 1)", "@(int) i", "@*a", "a@[0]",
            "s@.a", "(&s)@->a", "@!a", "@(int) a", "@(int) (int *) 5", "@!(int *) 0", "a @== 0", "(int *) 0 @== 0"};
        for (String e : wrong) {
            b.fault(8, ahead + "int x[" + e + "]; int main() { }");
            b.fault(8, ahead + "enum { B = " + e + " }; int main() { }");
            b.fault(8, ahead + "int g = " + e + "; int main() { }");
            b.fault(8, ahead + "int main() { switch (1) { case " + e + ": ; } }");
        }
        for (String e : new String[] {"@a", "@&i", "@\"a\"", "@(int *) 0", "a @+ 1", "@(void) 0", "@s"}) {
            b.fault(8, ahead + "int x[" + e + "]; int main() { }");
            b.fault(8, ahead + "enum { B = " + e + " }; int main() { }");
            b.fault(5, ahead + "int g = " + e + "; int main() { }");
            b.fault(8, ahead + "int main() { switch (1) { case " + e + ": ; } }");
        }
        b.about("All wraps");
        String[] made = {"2147483647 + 1", "-2147483647 - 2", "65536 * 65536", "4294967295 + 1", "(unsigned) 0 - 1", "-(-2147483647 - 1)", "1 << 31", "1 << 32", "3 << 31", "(-2147483647 - 1) / -1"};
        int[] due = {Integer.MIN_VALUE, Integer.MAX_VALUE, 0, 0, -1, Integer.MIN_VALUE, Integer.MIN_VALUE, 1, Integer.MIN_VALUE, Integer.MIN_VALUE};
        for (int k = 0; k < made.length; k++) {
            b.ends(due[k], "int x = " + made[k] + "; int main() { return x; }");
            b.ends(due[k], "int main() { int z = 0; return " + made[k].replaceAll("(\\d+)", "($1 + z)") + "; }");
        }
    }

    private static void zeros(Bench b) {
        b.about("a quotient or rest by 0: 8 at its operator, wherever it stands");
        for (String op : new String[] {"/", "%"}) {
            String zero = "1 @" + op + " 0";
            b.fault(8, "int x[" + zero + "]; int main() { }");
            b.fault(8, "enum { A = " + zero + " }; int main() { }");
            b.fault(8, "int x = " + zero + "; int main() { }");
            b.fault(8, "int main() { switch (1) { case " + zero + ": ; } }");
            b.fault(8, "int main() { return " + zero + "; }");
            b.fault(8, "int main() { if (0) " + zero + "; }");
            b.fault(8, "int main() { 0 && " + zero + "; }");
            b.fault(8, "int main() { 1 || " + zero + "; }");
            b.fault(8, "int main() { 1 ? 2 : " + zero + "; }");
            b.fault(8, "int main() { sizeof (" + zero + "); }");
            b.fault(8, "int main() { 1 @" + op + " (2 - 2); }");
            b.fault(8, "int main() { 4294967295 @" + op + " (unsigned) 0; }");
            b.fault(8, "int main() { 0 @" + op + " '\\0'; }");
            b.rightIn("1 " + op + " 1; 0 " + op + " 1; 1 " + op + " -1; i " + op + " 1;");
            b.about("/ and % by 0: TRAP 1 at the operator: of what isn't constant");
            b.traps(1, "int main() { int i = 1; return i @" + op + " 0; }");
            b.traps(1, "int main() { int i = 0; return 1 @" + op + " i; }");
            b.traps(1, "int main() { int i = 5; i @" + op + "= 0; }");
            b.about("Where types (5, 9) and a 0 (8) are wrong at one operator, types count first");
            b.faultIn(5, "p @" + op + " 0;");
            b.faultIn(5, "s @" + op + " 0;");
            b.faultIn(5, "vf() @" + op + " 0;");
            b.faultIn(5, "\"a\" @" + op + " 0;");
            b.faultIn(5, "p @" + op + "= 0;");
            b.about("what is around a part comes behind it");
            b.faultIn(8, "p = 1 @" + op + " 0;");
            b.faultIn(8, "f(1, 1 @" + op + " 0);");
            b.fault(8, "int *p = 1 @" + op + " 0; int main() { }");
        }
    }

    private static void nulls(Bench b) {
        b.about("NULL is a constant int that is 0");
        for (String e : new String[] {"0", "'\\0'", "0x0", "1 @- 1", "E0", "(0)", "@(int) 0", "@(char) 256", "@!5", "1 @== 2", "@~-1", "0 @? 1 : 0", "sizeof i @- 4", "@-0", "1 @&& 0"}) {
            b.rightIn("p = " + e.replace("@", "") + "; v == " + "(" + e.replace("@", "") + "); i ? n : " + e.replace("@", "") + "; f(1, " + e.replace("@", "") + ");");
        }
        for (String e : new String[] {"1", "@-1", "@(unsigned) 0", "0x80000000 @* 2", "i", "E5", "i @- i", "i @* 0", "(i, 0)", "c", "u", "@(char) i"}) {
            String plain = e.replace("@", "");
            b.faultIn(5, "p @= " + plain + ";");
            b.faultIn(5, "v @== (" + plain + ");");
            b.faultIn(5, "i @? n : " + plain + ";");
        }
    }

    // What is handed, what it is (a: arithmetic, 0: NULL, else what it points to, or -), and AT which it is.
    private static final String[][] HANDED = {{"@i", "a"}, {"@c", "a"}, {"@u", "a"}, {"@E5", "a"}, {"i @+ 1", "a"}, {"@5", "a"}, {"@(unsigned) 0", "a"}, {"@0", "0"}, {"@E0", "0"}, {"1 @- 1", "0"},
        {"@p", "int"}, {"@arr", "int"}, {"@&i", "int"}, {"@m", "row"}, {"m@[0]", "int"}, {"@&arr", "array"}, {"@q", "char"}, {"@\"a\"", "char"}, {"@&c", "char"}, {"@v", "void"}, {"@(void *) p", "void"},
        {"@ps", "S"}, {"@&s", "S"}, {"@&t", "T"}, {"@n", "N"}, {"@&p", "int *"}, {"@&u", "unsigned"}, {"@&v", "void *"}, {"vf@()", "-"}, {"@s", "-"}, {"@t", "-"}};
    private static final String[][] TARGETS = {{"int ", "a"}, {"char ", "a"}, {"unsigned ", "a"}, {"int *", "int"}, {"char *", "char"}, {"unsigned *", "unsigned"}, {"void *", "void"},
        {"struct S *", "S"}, {"struct T *", "T"}, {"struct N *", "N"}, {"int **", "int *"}, {"void **", "void *"}};

    private static boolean fit(String from, String to) {
        if (to.equals("a")) {
            return from.equals("a") || from.equals("0");
        }
        boolean pointer = !from.equals("a") && !from.equals("-");
        return pointer && (from.equals("0") || from.equals("void") || to.equals("void") || from.equals(to));
    }

    private static void fits(Bench b) {
        b.about("FITS: arithmetic to arithmetic; a pointer to one of the same type; a pointer to void, and to one from any pointer; NULL to any pointer");
        for (String[] target : TARGETS) {
            for (String[] handed : HANDED) {
                String plain = handed[0].replace("@", "");
                String head = Bench.WORLD + target[0];
                String main = "int main() { ";
                if (fit(handed[1], target[1])) {
                    b.right(head + "g(" + target[0] + "x) { " + target[0] + "y = " + plain + "; y = " + plain + "; return " + plain + "; } " + main + "g(" + plain + "); }");
                } else {
                    b.fault(5, head + "g() { " + target[0] + "y = " + handed[0] + "; } " + main + "}");
                    b.fault(5, head + "g() { " + target[0] + "y; y @= " + plain + "; } " + main + "}");
                    b.fault(5, head + "g() { return " + handed[0] + "; } " + main + "}");
                    b.fault(5, head + "g(" + target[0] + "x) { } " + main + "g(" + handed[0] + "); }");
                }
            }
        }
        b.about("an array of a type, too, when it is handed as a pointer to one");
        b.right(Bench.WORLD + "void g(int x[][3], int y[4]) { } int main() { g(m, arr); g(&m[0], p); g(0, m[1]); g(v, v); }");
        b.fault(5, Bench.WORLD + "void g(int x[][4]) { } int main() { g(@m); }");
        b.fault(5, Bench.WORLD + "void g(int x[][3]) { } int main() { g(@arr); }");
        b.fault(5, Bench.WORLD + "void g(int x[][4]) { } int main() { g(@arr); }");
        b.right(Bench.WORLD + "void g(int x[][4]) { } int main() { g(&arr); }");
    }
}
