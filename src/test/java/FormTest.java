/** Promise 3, Terms 2: FORM and its LIMITS, faults 2 and 12. */
public final class FormTest {
    public static void main(String[] args) {
        Bench b = new Bench();
        declarations(b);
        statements(b);
        expressions(b);
        nested(b);
        nestedStatements(b);
        heights(b);
        b.close();
    }

    private static void declarations(Bench b) {
        b.right("struct A { int a, *b[2], c; char d; }; enum { X, Y = 1 + 1, Z }; int a, *b, c[2] = {1}, **d[2][3]; "
            + "void f(); void g(void); int *h(int a, char *b[], struct A *c) { } int main(void) { }");
        b.fault(2, "struct A { @};");
        b.fault(2, "struct A { int a }@;".replace("a }@", "a @}"));
        b.fault(2, "struct A { int a; }@ int b;".replace("}@ ", "} @"));
        b.fault(2, "struct A@; int main() { }");
        b.fault(2, "struct @{ int a; };");
        b.fault(2, "struct A { struct B @{ int a; } b; };");
        b.fault(2, "struct A { int a @= 1; };");
        b.fault(2, "struct A { int a@(); };");
        b.fault(2, "enum @E { A };");
        b.fault(2, "enum { @};");
        b.fault(2, "enum { A, @};");
        b.fault(2, "enum { A = 1, B @= = 2 };".replace("@= =", "= @="));
        b.fault(2, "enum { A @= 1 = 2 };".replace("@= 1 =", "= 1 @="));
        b.fault(2, "enum { A = 1 @; };");
        b.fault(2, "@main() { }");
        b.fault(2, "@;");
        b.fault(2, "int @;");
        b.fault(2, "int a, b@(int c);");
        b.fault(2, "int a @b;");
        b.fault(2, "int a[2@;");
        b.fault(2, "int a[1 @, 2];");
        b.fault(2, "int a[1 @= 2];");
        b.fault(2, "int a = @;");
        b.fault(2, "int a = {@};");
        b.fault(2, "int a = {1,@};");
        b.fault(2, "int a = 1@, 2;".replace("1@, ", "1, @"));
        b.fault(2, "int f(int@);");
        b.fault(2, "int f(int a,@);");
        b.fault(2, "int f(void@, int a);");
        b.fault(2, "int f(int a, void@);");
        b.fault(2, "int f(int a) @int b;");
        b.fault(2, "int f(int a @= 1);");
        b.fault(2, "int f(int a)[@".replace(")[@", ")@["));
        b.fault(2, "int f() { }@;");
        b.fault(2, "int f() { @");
        b.fault(2, "int f(@");
        b.fault(2, "unsigned @int a;");
        b.right("struct A *a; int main() { }");
    }

    private static void statements(Bench b) {
        b.right("int main() { ; { } {{;}} int a; if (1) ; else ; if (1) if (2) ; else ; while (1) break; do ; while (0); "
            + "for (;;) break; for (a = 1; a; a++, a) continue; for (int b, c = 1; ; ) break; "
            + "switch (a) { } switch (a) { case 1: case 2: a; int c; default: ; } return 1; return 1, 2; }");
        b.fault(2, "int main() { if (1) @int a; }");
        b.fault(2, "int main() { if @1; }");
        b.fault(2, "int main() { if (@) ; }");
        b.fault(2, "int main() { @else ; }");
        b.fault(2, "int main() { if (1) ; ; @else ; }");
        b.fault(2, "int main() { while (1) @}");
        b.fault(2, "int main() { do ; @}");
        b.fault(2, "int main() { do ; while (1) @}");
        b.fault(2, "int main() { do while (1); @}");
        b.fault(2, "int main() { for (;@) ; }");
        b.fault(2, "int main() { for (int a@) ; }");
        b.fault(2, "int main() { for (;;@; ) ; }");
        b.fault(2, "int main() { switch (1) @; }");
        b.fault(2, "int main() { switch (1) { case @: ; } }");
        b.fault(2, "int main() { switch (1) { case 1 @; } }");
        b.fault(2, "int main() { switch (1) { case 1 @, 2: } }");
        b.fault(2, "int main() { switch (1) { { @case 1: } } }");
        b.fault(2, "int main() { @case 1: ; }");
        b.fault(2, "int main() { @default: ; }");
        b.fault(2, "int main() { break @1; }");
        b.fault(2, "int main() { continue @}");
        b.fault(2, "int main() { return @}");
        b.fault(2, "int main() { @enum { A }; }");
        b.fault(2, "int main() { struct A @{ int a; }; }");
        b.fault(2, "int main() { struct @; }");
        b.fault(2, "int main() { int a; int b@() { } }");
        b.fault(2, "int main() { 1 @}");
        b.fault(2, "int main() { @)");
        b.fault(2, "int main() { } @}");
    }

    private static void expressions(Bench b) {
        b.rightIn("1, 2, i = 3, i += i -= 2; i = 1 ? 2, 3 : 4 ? 5 : 6; -~!*&i; ++i; --i; i++; (int) -i; (char *) p; "
            + "sizeof (int *); sizeof i; sizeof (i); sizeof -i; f(1, q); (vf()); p[1]; ps->a; s.r[1]; s.b--;");
        b.fault(2, "int main() { return 1 + @; }");
        b.fault(2, "int main() { return @+1; }");
        b.fault(2, "int main() { return 1 ? 2@; }");
        b.fault(2, "int main() { return 1 ? @: 2; }");
        b.fault(2, "int main() { return 1 ? 2 : @; }");
        b.fault(2, "int main() { return (1@; }");
        b.fault(2, "int main() { return (@); }");
        b.fault(2, "int main() { return main(1,@); }");
        b.fault(2, "int main() { return main(,@); }".replace("(,@", "(@,"));
        b.fault(2, "int main() { return (main)@(); }");
        b.fault(2, "int main() { return 1@(2); }");
        b.fault(2, "int main() { return a[@]; }");
        b.fault(2, "int main() { return a[1@; }");
        b.fault(2, "int main() { return a.@1; }");
        b.fault(2, "int main() { return a->@int; }");
        b.fault(2, "int main() { return (int@) ; }".replace("@) ;", ") @;"));
        b.fault(2, "int main() { return (int@[2]) 1; }");
        b.fault(2, "int main() { return sizeof (int) @x; }");
        b.fault(2, "int main() { return sizeof (int)@[1]; }");
        b.fault(2, "int main() { return sizeof @; }");
        b.fault(2, "int main() { return sizeof @int; }");
        b.fault(2, "int main() { return (struct@) 1; }");
        b.fault(2, "int main() { return 1 2@; }".replace("1 2@", "1 @2"));
        b.fault(2, "int main() { return a @b; }");
        b.fault(2, "int main() { return \"a\" @\"b\"; }");
        b.fault(2, "int main() { return { @1 }; }".replace("{ @1", "@{ 1"));
        b.fault(2, "int main() { a = @{ 1 }; }");
        // An E3 may stand at the left of =.
        b.faultIn(6, "i + 1 @= 2;");
        b.faultIn(6, "1 ? i : i @= 2;");
        b.fault(2, "int main() { 1 ? 2 : 3 ? 4@; }");
        b.ends(8, "int main() { return sizeof (int) * 2; }");
        b.ends(-7, "int main() { int a = 7; return (int) -a; }");
    }

    private static String times(String part, int count) {
        return part.repeat(count);
    }

    /** 24 within one another are right, the 25th is a 12 at it. */
    private static void nested(Bench b) {
        limit(b, "(", "i", ")");
        limit(b, "(int) ", "i", "");
        limit(b, "~", "i", "");
        limit(b, "! ", "i", "");
        limit(b, "- ", "i", "");
        limit(b, "sizeof ", "i", "");
        limit(b, "arr[", "i", "]");
        limit(b, "1 + (", "i", ")", 4);
        limit(b, "g(", "i", ")", 1);
        limit(b, "i = ", "i", "", 2);
        limit(b, "i += ", "i", "", 2);
        limit(b, "i ? ", "i", " : i", 2);
        limit(b, "i ? i : ", "i", "", 2, 1);
        b.faultIn(12, times("(", 24) + "@-i" + times(")", 24) + ";");
        b.faultIn(12, times("(", 24) + "@sizeof (int)" + times(")", 24) + ";");
        b.faultIn(12, times("(", 24) + "@(int) i" + times(")", 24) + ";");
        b.faultIn(12, times("(", 24) + "i @= 1" + times(")", 24) + ";");
        b.faultIn(12, times("(", 24) + "i @? 1 : 2" + times(")", 24) + ";");
        b.faultIn(12, times("(", 24) + "vf@()" + times(")", 24) + ";");
        b.faultIn(12, times("(", 24) + "arr@[0]" + times(")", 24) + ";");
        b.rightIn(times("(", 24) + "i++ + i--" + times(")", 24) + ";");
        b.rightIn(times("(", 24) + "s.a + ps->a, 1" + times(")", 24) + ";");
        // One behind the other, they don't stand within one another.
        b.rightIn(times("(i), ", 30) + times("-i, ", 20) + "1;");
        b.right("int m" + times("[1]", 30) + "; int main() { return m" + times("[0]", 30) + "; }");
        // Those of DIMS, if, while, for, switch aren't counted.
        b.rightIn("int x[" + times("(", 24) + "1" + times(")", 24) + "]; if (" + times("(", 24) + "1" + times(")", 24)
            + ") ; switch (" + times("(", 24) + "1" + times(")", 24) + ") { }");
        String full = times("(", 24) + "1" + times(")", 24);
        b.rightIn("for (" + full + "; " + full + "; " + full + ") break; while (" + full + ") break; do ; while (!" + full.substring(1, 48) + "); "
            + "switch (1) { case " + full + ": ; } return " + full + ";");
        b.right("enum { A = " + full + " }; int a = " + full + "; int main() { int b = " + full + "; }");
        b.fault(5, "int a = @" + times("{", 24) + "1" + times("}", 24) + ";");
        b.fault(12, "int a = " + times("{", 24) + "@{1}" + times("}", 24) + ";");
        b.fault(12, "int a = " + times("{", 24) + "@(1)" + times("}", 24) + ";");
        b.fault(12, "int a = " + times("{", 20) + times("(", 4) + "@-1" + times(")", 4) + times("}", 20) + ";");
        // The 25th counts ahead of what is behind it.
        b.faultIn(12, times("(", 24) + "@()");
    }

    private static void limit(Bench b, String open, String middle, String close) {
        limit(b, open, middle, close, 0);
    }

    private static void limit(Bench b, String open, String middle, String close, int into) {
        limit(b, open, middle, close, into, 0);
    }

    /** The 25th counts at its sign 'into' behind its beginning. */
    private static void limit(Bench b, String open, String middle, String close, int into, int spare) {
        String ahead = Bench.WORLD + "int g(int x) { return x; } int main() { ";
        if (open.equals("arr[") || open.equals("g(")) {
            into = open.length() - 1;
        }
        b.right(ahead + times(open, 24) + middle + times(close, 24) + "; }");
        String marked = open.substring(0, into) + "@" + open.substring(into);
        b.fault(12, ahead + times(open, 24) + marked + middle + times(close, 25) + "; }");
    }

    private static void nestedStatements(Bench b) {
        b.right("int main() " + times("{", 24) + times("}", 24));
        b.fault(12, "int main() " + times("{", 24) + "@{" + times("}", 25));
        b.fault(12, "int main() " + times("{", 24) + "@;" + times("}", 24));
        b.fault(12, "int main() " + times("{", 24) + "@)" + times("}", 24));
        b.fault(12, "int main() " + times("{", 24) + "@else" + times("}", 24));
        b.fault(12, "int main() " + times("{", 24) + "@case 1:" + times("}", 24));
        b.right("int main() " + times("{", 24) + "int a; int b;" + times("}", 24));
        b.right("int main() { " + times("if (1) ", 22) + "; }");
        b.right("int main() { " + times("if (1) ", 22) + "{ int a; } }");
        b.fault(12, "int main() { " + times("if (1) ", 22) + "{ @; } }");
        b.fault(12, "int main() { " + times("while (1) ", 23) + "@; }");
        b.fault(12, "int main() { " + times("do ", 23) + "@; }");
        b.fault(12, "int main() { " + times("for (;;) ", 23) + "@) }");
        b.fault(12, "int main() { " + times("if (1) ; else ", 22) + "if (1) @; else ; }");
        b.right("int main() { " + times("if (1) ; else ", 22) + "; }");
        String switches = times("switch (1) { ", 23);
        b.right("int main() { " + switches + "case 1: int a; default: case 2: " + times("}", 24));
        b.fault(12, "int main() { " + switches + "case 1: @;" + times("}", 24));
        b.fault(12, "int main() { " + switches + "@break;" + times("}", 24));
        b.right("int main() { " + times("{ }", 60) + times("if (1) ;", 60) + " }");
    }

    /** A HEIGHT of 60 is right, 61 is a 12 AT the E. */
    private static void heights(Bench b) {
        b.rightIn("i" + times(" + i", 60) + ";");
        b.faultIn(12, "i" + times(" + i", 60) + " @+ i;");
        b.faultIn(12, "i" + times(" + i", 60) + " @+ i )");
        b.faultIn(12, "i" + times(" + i", 60) + " @+ i" + times(" + i", 20) + ";");
        b.faultIn(2, "i" + times(" + i", 60) + " + @;");
        // The last part goes on first: its height counts ahead.
        b.faultIn(12, "i" + times(" + i", 60) + " @+ i * i * i;");
        b.faultIn(2, "i" + times(" + i", 60) + " + i * @;");
        b.rightIn("i" + times(", i", 60) + ";");
        b.faultIn(12, "i" + times(", i", 60) + "@, i;");
        b.rightIn("p" + times("[0]", 1) + times(" + i", 59) + ";");
        b.faultIn(12, "p[0]" + times(" + i", 59) + " @+ i;");
        b.rightIn("(((i" + times(" + i", 60) + ")));");
        b.faultIn(12, "@-(i" + times(" + i", 60) + ");");
        b.faultIn(12, "@(int) (i" + times(" + i", 60) + ");");
        b.faultIn(12, "@sizeof (i" + times(" + i", 60) + ");");
        b.faultIn(12, "arr@[i" + times(" + i", 60) + "];");
        b.faultIn(2, "arr[i" + times(" + i", 60) + "@;");
        b.faultIn(12, "put@(i" + times(" + i", 60) + ");");
        b.faultIn(2, "put(i" + times(" + i", 60) + "@;");
        b.faultIn(12, "f@(1, q + (i" + times(" + i", 59) + "));");
        b.rightIn("f(1, q + (i" + times(" + i", 58) + "));");
        b.faultIn(12, "i @= i" + times(" + i", 60) + ";");
        b.faultIn(12, "i @? 1 : i" + times(" + i", 60) + ";");
        b.faultIn(12, "i" + times(" + i", 60) + " @? 1 : 2;");
        b.faultIn(12, "i @? i" + times(" + i", 60) + " : 2;");
        b.faultIn(2, "i ? i" + times(" + i", 60) + " @;");
        b.faultIn(12, "(i" + times(" + i", 60) + ")@++;");
        b.faultIn(12, "(i" + times(" + i", 60) + ")@.a;");
        b.faultIn(2, "(i" + times(" + i", 60) + ").@1;");
        b.faultIn(12, "(i" + times(" + i", 60) + ")@->a @;".replace(" @;", " ) ;"));
        String chain = "struct N { struct N *n; int v; }; struct N *k; int main() { return k" + times("->n", 59);
        b.right(chain + "->v; }");
        b.fault(12, chain + "->n@->v; }");
        b.fault(12, "int a[1" + times(" + 1", 60) + " @+ 1];");
        b.fault(12, "int a = {1" + times(" + 1", 60) + " @+ 1};");
        b.fault(12, "enum { A = 1" + times(" + 1", 60) + " @+ 1 };");
        b.right("int main() { return main()" + times(" + 1", 59) + "; }");
        b.fault(12, "int main() { return main()" + times(" + 1", 59) + " @+ 1; }");
        b.fault(12, "int main() { return sizeof (int)" + times(" + 1", 59) + " @+ 1; }");
        b.right("int main() { return sizeof 1 + (1" + times(" + 1", 59) + "); }");
        // The FORM is gone through ahead of the MEANING.
        b.fault(2, "int a; int a; int main() { x = y @}");
        b.fault(12, "int a; int a; int main() { x = " + times("-", 0) + times("~", 23) + "@~1; }");
    }
}
