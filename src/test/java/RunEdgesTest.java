/** Terms 5, RUNNING, sentence by sentence: both sides of each boundary. */
public final class RunEdgesTest {
    public static void main(String[] args) {
        Bench b = new Bench();
        memory(b);
        frames(b);
        stack(b);
        arguments(b);
        input(b);
        output(b);
        endings(b);
        rounds(b);
        order(b);
        initials(b);
        switches(b);
        addresses(b);
        alignment(b);
        writesThatTrap(b);
        places(b);
        copies(b);
        reads(b);
        wraps(b);
        divisions(b);
        shifts(b);
        comparisons(b);
        b.close();
    }

    /** A text that has been cast and begun. */
    private static WordFoundry begun(Bench b, String text, int size) {
        WordFoundry x = b.fresh();
        b.due(text, Bench.cast(x, text), 0);
        b.due("begin " + text, x.begin(size), true);
        return x;
    }

    private static void memory(Bench b) {
        b.about("MEMORY has SIZE bytes, all 0 but for DATA");
        WordFoundry x = begun(b, "char a[3] = {1, 2, 3}; int main() { \"z\"; char c[9]; }", 1024);
        int sum = 0;
        for (int k = 0; k < 330; k++) {
            sum += x.peek(k < 64 ? k : k - 64 < 5 ? 0 : k);
        }
        b.due("all others", sum, 0);
        b.due("a", x.peek(64) * 100 + x.peek(65) * 10 + x.peek(66), 123);
        b.due("the STRING", x.peek(67), 'z');
        b.due("the first", x.peek(0), 0);
        b.due("the last", x.peek(1023), 0);
        b.due("none behind it", x.peek(1024), -1);
        b.about("SP is SIZE at first");
        b.due("main's FRAME ends there", x.frame(0, 1), 1024 - 12);
        b.due("of a larger one", begun(b, "int main() { int a; }", 65536).frame(0, 1), 65532);
        b.due("of none", begun(b, "int main() { }", 65536).frame(0, 1), 65536);
    }

    /** Recursion that goes so deep, main's FRAME included. */
    private static String deep(int frames) {
        return "int f(int n) { return n ? 1 + f(n - 1) : 1; } int main() { return 1 + f(" + (frames - 2) + "); }";
    }

    private static void frames(Bench b) {
        b.about("or it would be the 201st one: TRAP 4 at its (; SP and frames stay as they were");
        b.ends(200, deep(200));
        String text = deep(201);
        WordFoundry x = begun(b, text, 65536);
        b.due("ROUNDS", x.go(1000), 200);
        b.due("TRAPPED", x.look(1), 4);
        b.due("TRAP 4", x.look(2), 4);
        b.due("at its (", x.look(3), text.indexOf("(n - 1)"));
        b.due("FRAMES", x.look(6), 200);
        b.due("SP", x.frame(0, 1), 65536 - 199 * 4);
        b.due("the least SP", x.look(7), 65536 - 199 * 4);
        b.due("the outermost", x.frame(199, 2), -1);
        b.due("its argument", x.peek(65536 - 199 * 4), 1);
        // get, put and halt have no FRAME.
        b.ends('!', "int f(int n) { return n ? f(n - 1) : get(); } int main() { return f(198); }", "!");
        b.ends(5, "int f(int n) { if (n) f(n - 1); put(1); halt(5); return 1; } int main() { return f(198); }");
        // A FRAME that has ended makes room.
        b.ends(3 * 199, "int f(int n) { return n ? 1 + f(n - 1) : 1; } int main() { return f(198) + f(198) + f(198); }");
    }

    private static void stack(Bench b) {
        b.about("SP becomes less by F (below the end of DATA: TRAP 4 at its (");
        // 1024 - 64 bytes: main's F is 0, f's is as told.
        for (int more = 0; more <= 4; more += 4) {
            String text = "int f() { char a[" + (960 + more) + "]; return 7; } int main() { return f(); }";
            WordFoundry x = begun(b, text, 1024);
            x.go(9);
            b.due("ended or TRAPPED", x.look(1), more == 0 ? 3 : 4);
            b.due("7 or TRAP 4", x.look(2), more == 0 ? 7 : 4);
            b.due("place", x.look(3), more == 0 ? -1 : text.lastIndexOf("()"));
            b.due("ROUNDS", x.look(4), more == 0 ? 2 : 1);
            b.due("FRAMES", x.look(6), more == 0 ? 0 : 1);
            b.due("the least SP", x.look(7), more == 0 ? 64 : 1024);
        }
        // The end of DATA, not of the variables, counts.
        for (int bytes = 1; bytes <= 5; bytes++) {
            WordFoundry x = begun(b, "char d[" + bytes + "]; int f() { char a[956]; return 7; } int main() { return f(); }", 1024);
            x.go(9);
            b.due("with " + bytes + " bytes of DATA", x.look(1), bytes <= 4 ? 3 : 4);
        }
        WordFoundry x = begun(b, "int main() { \"abcd\"; return main(); }", 1024);
        b.due("FRAMES of no bytes", x.go(1000), 200);
        b.about("at its end SP is as before");
        b.ends(1, "int d; int *at() { int x; return &x; } int main() { int *a = at(); at(); int *c = at(); return a == c; }");
        b.ends(3, "int f(int n) { char s[400]; s[0] = n; return s[0]; } int main() { int r = 0; for (int i = 0; i < 50; i++) r = f(3); return r; }");
    }

    private static void arguments(Bench b) {
        b.about("arguments are worked out from the left, then there is a FRAME");
        WordFoundry x = begun(b, "int g(int n) { put(n); return n; } int f(int a, char c, unsigned d) { char big[2000]; } int main() { return f(g(1), g(2), g(3)); }", 1024);
        x.go(9);
        b.due("TRAP 4", x.look(2), 4);
        b.due("all three were worked out", x.look(5), 3);
        b.due("from the left", x.out(0) * 100 + x.out(1) * 10 + x.out(2), 123);
        b.about("the arguments come into their places, and it goes on with a ROUND and its BLOCK");
        x = begun(b, "int f(char a, int b, char c, int *d) { return 1; } int main() { return f(0x141, -2, 0x142, (int *) 0x01020304); }", 1024);
        x.go(1);
        b.due("a FRAME of 16 bytes", x.frame(0, 1), 1008);
        int[] due = {0x41, 0, 0, 0, 0xfe, 0xff, 0xff, 0xff, 0x42, 0, 0, 0, 4, 3, 2, 1};
        for (int k = 0; k < due.length; k++) {
            b.due("byte " + k, x.peek(1008 + k), due[k]);
        }
        b.due("ahead of its ROUND", x.look(4), 1);
        b.due("its ROUND", x.go(1), 1);
        b.about("Without a return its value is 0");
        for (String type : new String[] {"int", "char", "unsigned"}) {
            b.ends(0, type + " f() { 77; } int main() { int a = 5; a = f(); return a; }");
        }
        b.ends(1, "int *f() { get(); } int main() { return f() == 0; }");
        b.ends(0, "int main() { 77; }");
        b.ends(0, "int g() { return 9; } int f(int a) { if (a) return 5; g(); } int main() { return f(0); }");
    }

    private static void input(Bench b) {
        b.about("get(), an int: the next byte of the INPUT, or -1");
        b.ends(-1, "int main() { return get(); }", "");
        b.ends(0, "int main() { return get(); }", "\u0000");
        b.ends(255, "int main() { return get(); }", "\u00ff");
        b.ends(-1, "int main() { get(); return get(); }", "a");
        b.ends('b', "int main() { get(); return get(); }", "ab");
        b.ends(-3, "int main() { return get() + get() + get(); }", "");
    }

    private static void output(Bench b) {
        b.about("put(int), void: its lowest byte goes to the OUTPUT (the first 4096 are kept, at most 1000000000 counted)");
        for (int many : new int[] {0, 1, 4095, 4096, 4097, 4999}) {
            WordFoundry x = begun(b, "int main() { for (int i = 0; i < " + many + "; i++) put(i + 3); put(0x1ff); }", 1024);
            for (int k = 0; k < 6; k++) {
                x.go(1000);
            }
            b.due("ended", x.look(1), 3);
            b.due("counted", x.look(5), many + 1);
            for (int i = Math.max(0, many - 3); i < many + 4; i++) {
                int due = i > many || i >= 4096 ? -1 : i == many ? 255 : i + 3 & 255;
                b.due("byte " + i + " of " + (many + 1), x.out(i), due);
            }
        }
        b.ends(1, "int main() { put(256); put(-1); return 1; }");
    }

    private static void endings(Bench b) {
        b.about("halt(int), void: it is ENDED with that");
        for (int value : new int[] {0, 1, -1, 255, 256, Integer.MAX_VALUE, Integer.MIN_VALUE + 1}) {
            b.ends(value, "int main() { halt(" + value + "); put('x'); return 3; }");
            b.ends(value, "int f(int n) { if (n) f(n - 1); else halt(" + value + "); return 1; } int main() { return f(9); }");
            b.about("main's value (of void: 0) ends it likewise");
            b.ends(value, "int main() { return " + value + "; }");
            b.about("halt(int), void: it is ENDED with that");
        }
        b.ends(0, "void main() { }");
        b.ends(0, "void main() { return; }");
        b.ends(4, "void main() { halt(4); }");
        WordFoundry x = begun(b, "int f() { put(1); halt(2); put(3); return 4; } int main() { put(f()); }", 1024);
        x.go(9);
        b.due("nothing behind a halt", x.look(5), 1);
        b.due("no FRAMES", x.look(6), 0);
    }

    private static void rounds(Bench b, int due, String text) {
        WordFoundry x = begun(b, text, 1024);
        for (int k = 0; k < 4 && x.look(1) == 2; k++) {
            x.go(1000);
        }
        b.due("ended", x.look(1), 3);
        b.due("ROUNDS of " + text, x.look(4), due);
    }

    private static void rounds(Bench b) {
        b.about("A ROUND: a function's BLOCK begins, or the S of a while, do, for does");
        rounds(b, 1, "int main() { }");
        rounds(b, 1, "int main() { while (0) ; }");
        rounds(b, 2, "int main() { int i = 1; while (i--) ; }");
        rounds(b, 2, "int main() { do ; while (0); }");
        rounds(b, 3, "int main() { int i = 2; do ; while (--i); }");
        rounds(b, 1, "int main() { for (; 0; ) ; }");
        rounds(b, 2, "int main() { for (int i = 0; i < 1; i++) ; }");
        rounds(b, 2, "int main() { for (;;) break; }");
        rounds(b, 2, "int main() { while (1) { break; } }");
        rounds(b, 2, "int main() { do continue; while (0); }");
        rounds(b, 6, "int main() { for (int i = 0; i < 5; i++) continue; }");
        rounds(b, 8, "int main() { for (int i = 0; i < 3; i++) for (int k = 0; k < i; k++) { ; } { } if (1) { } switch (1) { case 1: { } } int z; while (z = z == 0) { if (z) break; } }");
        rounds(b, 2, "void f() { } int main() { f(); }");
        rounds(b, 1, "void f() { } int main() { 0 ? f() : (void) 0; }");
        b.about("(They have no FRAME and no ROUND.)");
        rounds(b, 1, "int main() { get(); put(1); halt(1); }");
    }

    private static void sends(Bench b, String output, String text) {
        WordFoundry x = begun(b, "int z; int a[9]; int *p = &z; struct S { int v; }; struct S s[4]; int f(int n) { put(n + '0'); return n; } int *at(int n) { put(n + '0'); return a + n; } "
            + "struct S *e(int n) { put(n + '0'); return s + n; } int g(int k, int l, int m) { return k; } int main() { " + text + " }", 2048);
        Bench.run(x);
        b.due("ended " + text, x.look(1), 3);
        StringBuilder got = new StringBuilder();
        for (int i = 0; i < x.look(5); i++) {
            got.append((char) x.out(i));
        }
        b.due("sent by " + text, got.toString(), output);
    }

    private static void order(Bench b) {
        b.about("An E's parts are worked out from the left (of &&, ||, ? those that are needed)");
        for (String op : new String[] {"+", "-", "*", "&", "|", "^", "<<", ">>", "<", "==", "/", "%"}) {
            sends(b, "12", "f(1) " + op + " f(2);");
            sends(b, "132", "f(1) " + op + " (f(3) " + op + " f(2));");
        }
        sends(b, "123", "g(f(1), f(2), f(3));");
        sends(b, "12", "at(1)[f(2)];");
        sends(b, "0", "f(0) && f(1);");
        sends(b, "12", "f(1) && f(2);");
        sends(b, "1", "f(1) || f(2);");
        sends(b, "02", "f(0) || f(2);");
        sends(b, "12", "f(1) ? f(2) : f(3);");
        sends(b, "03", "f(0) ? f(2) : f(3);");
        sends(b, "123", "f(1), f(2), f(3);");
        sends(b, "01", "f(0) && f(2) || f(1);");
        sends(b, "1", "if (f(1) || f(2)) ;");
        sends(b, "0", "if (f(0) && f(2)) ;");
        b.about("of = and op= first which variable, then the right side, then (op=) the left one is read");
        for (String op : new String[] {"=", "+=", "-=", "*=", "|=", "<<="}) {
            sends(b, "12", "*at(1) " + op + " f(2);");
            sends(b, "312", "at(3)[f(1)] " + op + " f(2);");
        }
        sends(b, "12", "*e(1) = *e(2);");
        b.ends(8, "int x = 1; int set() { x = 5; return 3; } int main() { x += set(); return x; }");
        b.ends(3, "int a[2]; int i; int step() { i = 1; return 3; } int main() { a[i] = step(); return a[0]; }");
        b.ends(3, "int a[2]; int *p = a; int step() { p = a + 1; return 3; } int main() { *p = step(); return a[0]; }");
    }

    private static void initials(Bench b) {
        b.about("ITEMS with an INIT get it each time when it goes by them; all others have what lies in memory");
        b.ends(3, "int main() { int r = 0; for (int i = 0; i < 3; i++) { int k = 1; r += k; k = 9; } return r; }");
        b.ends(19, "int main() { int r = 0; for (int i = 0; i < 3; i++) { int k; if (i == 0) k = 1; r += k; k = 9; } return r; }");
        b.ends(77, "int f() { int a = 77; return 0; } int g() { int c; return c; } int main() { f(); return g(); }");
        b.ends(0, "int g() { int c; return c; } int main() { return g(); }");
        b.ends(9, "int main() { int r = 9; switch (1) { int k = 5; case 1: r += k; } return r; }");
        b.ends(14, "int main() { int r = 9; int i = 0; while (i++ < 2) switch (i) { case 1: int k = 5; break; case 2: r += k; } return r; }");
    }

    private static void switches(Bench b) {
        b.about("switch goes on behind the case with its value's 32 bits, else behind default, else behind its }");
        String body = " { case 1: r += 1; case 2: r += 2; break; default: r += 4; case -1: r += 8; } return r; }";
        int[] of = {1, 2, 3, -1, 0};
        int[] due = {3, 2, 12, 8, 12};
        for (int k = 0; k < of.length; k++) {
            b.ends(due[k], "int main() { int r = 0; int v = " + of[k] + "; switch (v)" + body);
            b.ends(due[k], "int main() { int r = 0; unsigned v = " + of[k] + "; switch (v)" + body);
        }
        b.ends(12, "int main() { int r = 0; char v = -1; switch (v)" + body);
        b.ends(6, "int main() { int r = 6; switch (9) { r = 1; case 1: r = 2; } return r; }");
        b.ends(6, "int main() { int r = 6; switch (9) { } return r; }");
        b.ends(5, "int main() { switch (0x80000000) { case -2147483647 - 1: return 5; } return 6; }");
    }

    private static void addresses(Bench b) {
        b.about("TRAP 2, if its bytes aren't all from 64 to SIZE - 1");
        String[] ways = {"*(% *) A", "((% *) A)[0]", "((struct S% *) A)->v", "(*(struct S% *) A).v"};
        String[] marks = {"@*(% *) A", "((% *) A)@[0]", "((struct S% *) A)@->v", "(*(struct S% *) A)@.v"};
        String structs = "struct Sint { int v; }; struct Schar { char v; }; struct Sunsigned { unsigned v; }; int main() { int x; ";
        for (int k = 0; k < ways.length; k++) {
            for (String address : new String[] {"64", "4092"}) {
                b.ends(0, structs + "return " + at(ways[k], "int", address) + "; }");
                b.ends(5, structs + at(ways[k], "unsigned", address) + " = 5; return " + at(ways[k], "unsigned", address) + "; }");
            }
            for (String address : new String[] {"64", "65", "4095"}) {
                b.ends(0, structs + "return " + at(ways[k], "char", address) + "; }");
                b.ends(5, structs + at(ways[k], "char", address) + " += 5; return " + at(ways[k], "char", address) + "; }");
            }
            for (String address : new String[] {"0", "60", "61", "63", "4093", "4094", "4095", "4096", "0x7ffffffc", "0x80000000", "0xfffffffc", "0xffffffff"}) {
                b.traps(2, structs + "x = " + at(marks[k], "int", address) + "; }");
                b.traps(2, structs + at(marks[k], "int", address) + " = 1; }");
            }
            for (String address : new String[] {"0", "63", "4096", "0xffffffff"}) {
                b.traps(2, structs + "x = " + at(marks[k], "char", address) + "; }");
                b.traps(2, structs + at(marks[k], "char", address) + " = 1; }");
                b.traps(2, structs + at(marks[k], "char", address) + " |= 1; }");
            }
        }
        b.about("in a MEMORY of another SIZE");
        for (int size : new int[] {1024, 1028, 65536}) {
            WordFoundry x = begun(b, "int main() { return *(int *) " + (size - 4) + " + *(char *) " + (size - 1) + "; }", size);
            x.go(1);
            b.due("the last bytes of " + size, x.look(1), 3);
            x = begun(b, "int main() { return *(char *) " + size + "; }", size);
            x.go(1);
            b.due("behind them " + size, x.look(2), 2);
        }
    }

    private static String at(String way, String type, String address) {
        return way.replace("%", type).replace("A", address);
    }

    private static void alignment(Bench b) {
        b.about("else TRAP 3, if it isn't aligned");
        for (int address = 64; address < 69; address++) {
            for (String type : new String[] {"int", "unsigned", "int *", "void *"}) {
                String text = "int main() { " + "@*(" + type + " *) " + address + "; }";
                if (address % 4 == 0) {
                    b.ends(0, text.replace("@", ""));
                } else {
                    b.traps(3, text);
                    b.traps(3, "int main() { @*(" + type + " *) " + address + " = 0; }");
                }
            }
            b.ends(0, "int main() { return *(char *) " + address + "; }");
        }
        b.traps(3, "int main() { @*(int *) 4091; }");
        b.traps(2, "int main() { @*(int *) 4093; }");
        b.traps(2, "int main() { @*(int *) 62; }");
        b.traps(3, "int main() { @*(int *) 65; }");
    }

    private static void writesThatTrap(Bench b) {
        b.about("A TRAP ends it, with its place: nothing is written any more");
        int[] at = {61, 62, 63, 65, 66, 67, 1021, 1022, 1023};
        for (int address : at) {
            String text = "int main() { int v = 0x7f7f7f7f; put(1); *(int *) " + address + " = v; put(2); }";
            WordFoundry x = begun(b, text, 1024);
            x.go(1);
            b.due("TRAP at " + address, x.look(2), address < 64 || address > 1020 ? 2 : 3);
            b.due("place", x.look(3), text.indexOf("*(int"));
            for (int k = 0; k < 8; k++) {
                int byteAt = address - 2 + k;
                int due = byteAt >= 1024 ? -1 : byteAt >= 1020 ? 0x7f : 0;
                b.due("byte " + byteAt + " behind a write to " + address, x.peek(byteAt), due);
            }
            b.due("what was put", x.look(5), 1);
            b.due("none stands", x.go(1), -1);
        }
        for (String e : new String[] {"*p += 5", "(*p)++", "--*p", "*p |= 1"}) {
            WordFoundry x = begun(b, "int a[2] = {1, 2}; int main() { int *p = (int *) 66; " + e + "; a[0] = 9; }", 1024);
            x.go(1);
            b.due("TRAP 3 of " + e, x.look(2), 3);
            b.due("a[0]", x.peek(64), 1);
            b.due("between", x.peek(66), 0);
            b.due("a[1]", x.peek(68), 2);
        }
    }

    private static void places(Bench b) {
        b.about("AT the E of that variable");
        String s = "struct S { int v; struct S *n; int r[3]; struct T *t; }; struct T { int w; struct S in; }; struct S *n; struct T *t; int **q; int *p; int m[2][2]; int main() { ";
        String[] marked = {"@*p", "(@*p)", "p@[0]", "n@->v", "(*n)@.v", "n@->n->v", "n->r@[1]", "@*n->r", "n@->t->w", "t->in@.v", "t->in.r@[2]", "(&t->in)@->v", "*@*q", "q@[0][0]", "m[1]@[9999]", "(p + 1)@[2]",
            "@*(p + 1)", "1 + @*p", "@*p + 1", "-@*p", "!@*p", "(char) @*p", "@*p, 1", "1, @*p", "1 ? @*p : 2", "(@*p)++", "++@*p", "n@->v--", "@*p = 1", "n@->v += 1", "(int) n@->v", "@*p && 1", "put(@*p)", "m[@*p]",
            "@*p ? 1 : 2", "sizeof 1 + @*p"};
        for (String e : marked) {
            b.traps(2, s + e + "; }");
        }
        b.traps(2, s + "if (@*p) ; }");
        b.traps(2, s + "switch (@*p) { } }");
        b.traps(2, s + "return @*p; }");
        b.traps(2, s + "int x = @*p; }");
    }

    private static void copies(Bench b) {
        b.about("= of structs likewise, the right one first, then the left one; then its bytes go, from the lowest on");
        String s = "struct W { char c; int v; }; struct C { char c[5]; }; struct B { int a[8]; }; struct W w, *p, *q; struct C c, *d, *e; struct B big; int x[9]; int main() { ";
        b.ends(0, s + "p = (struct W *) 4088; w = *p; *p = w; p = (struct W *) 64; w = *p; return 0; }");
        b.traps(2, s + "p = (struct W *) 4092; w = @*p; }");
        b.traps(2, s + "p = (struct W *) 4092; @*p = w; }");
        b.traps(2, s + "p = (struct W *) 4089; w = @*p; }");
        b.traps(2, s + "p = (struct W *) 60; w = @*p; }");
        b.traps(2, s + "p = (struct W *) 60; @*p = w; }");
        b.traps(2, s + "p = (struct W *) 0xfffffff8; w = @*p; }");
        for (int k = 65; k < 68; k++) {
            b.traps(3, s + "p = (struct W *) " + k + "; w = @*p; }");
            b.traps(3, s + "p = (struct W *) " + k + "; @*p = w; }");
        }
        b.ends(0, s + "d = (struct C *) 4091; c = *d; *d = c; d = (struct C *) 65; c = *d; d = (struct C *) 64; c = *d; return 0; }");
        b.traps(2, s + "d = (struct C *) 4092; c = @*d; }");
        b.traps(2, s + "d = (struct C *) 63; c = @*d; }");
        b.traps(2, s + "d = (struct C *) 63; @*d = c; }");
        b.traps(2, s + "d = (struct C *) 63; e = &c; *e = @*d; }");
        b.traps(2, s + "d = (struct C *) 63; e = &c; @*d = *e; }");
        b.traps(2, s + "d = (struct C *) 4092; e = &c; *e = @*d; }");
        b.traps(2, s + "d = (struct C *) 4092; e = &c; @*d = *e; }");
        b.ends(12, s + "w.v = 5; struct W k; int i = 7 + (k = w, p = &k, p->v); return i; }");
        b.ends(18, s + "w.v = 5; p = &w; struct W k; q = &k; return 7 + (6 + (*q = *p, k.v)); }");
        b.traps(2, s + "p = 0; q = &w; return 7 + (@*p = *q, 1); }");
        b.traps(2, s + "p = q = 0; *p = @*q; }");
        b.traps(3, s + "p = 0; q = (struct W *) 65; *p = @*q; }");
        b.traps(2, s + "p = 0; q = &w; @*p = *q; }");
        b.traps(2, s + "p@[0] = w; }");
        b.traps(2, s + "w = p@[0]; }");
        b.traps(2, s + "w = (1, @*p); }");
        b.traps(2, s + "struct W k = @*p; }");
        b.traps(2, s + "struct W k = (1, p@[2]); }");
        WordFoundry y = begun(b, "struct B { int a[8]; }; struct B b; int main() { b.a[0] = 3; *(struct B *) 996 = b; }", 1024);
        y.go(1);
        b.due("nothing went ahead of the TRAP", y.peek(996), 0);
        b.due("TRAP 2", y.look(2), 2);
        b.ends(11111, s + "d = &c; c.c[0] = 1; e = (struct C *) ((char *) d + 1); *e = *d; char *k = (char *) d; return k[1] + k[2] * 10 + k[3] * 100 + k[4] * 1000 + k[5] * 10000; }");
        b.ends(2345, s + "c.c[1] = 2; c.c[2] = 3; c.c[3] = 4; c.c[4] = 5; d = (struct C *) ((char *) &c + 1); c = *d; return c.c[0] * 1000 + c.c[1] * 100 + c.c[2] * 10 + c.c[3]; }");
        b.ends(36, s + "for (int i = 0; i < 8; i++) big.a[i] = i + 1; struct B o = big; struct B t; t = o; int r = 0; for (int i = 0; i < 8; i++) r += t.a[i]; return r; }");
    }

    private static void reads(Bench b) {
        b.about("An address alone reads nothing: arrays, &, structs but of =");
        String s = "struct S { int v; int r[3]; }; struct S *n; int *p; int m[2][2]; int main() { ";
        for (String e : new String[] {"*n", "n[3]", "n->r", "(*n).r", "&n->v", "&n->r[1]", "&p[5]", "&*p", "m[99]", "&m[99][1]", "(void) *n", "*n, 1", "(*n, 1)", "sizeof *p", "&n[1]", "(*n).r + 1", "n->r == 0", "0 && *p",
            "1 || *p", "1 ? 2 : *p", "!n->r"}) {
            b.ends(0, s + e + "; return 0; }");
        }
        b.ends(0, s + "for (*n; 0; *n) ; return 0; }");
        String near = "struct K { char a; char b; char c[3]; int d; }; struct K k, *p = &k; int main() { ";
        b.ends(1, near + "return &p->b - &p->a; }");
        b.ends(2, near + "return p->c - &p->a; }");
        b.ends(8, near + "return (char *) &p->d - &p->a; }");
        b.ends(3, near + "return &p->c[1] - &p->a; }");
        b.ends(13, near + "return &p[1].b - &p->a; }");
        b.about("what stands as E ;, at the left of , , as for's third E, in a CAST to void reads a scalar VARIABLE");
        for (String e : new String[] {"@*p;", "n@->v;", "p@[0];", "(@*p);", "@*p, 1;", "(void) @*p;", "(void) (1, @*p);", "for (@*p; ; ) ;", "for (; ; @*p) ;", "for (; ; 1, @*p) ;", "for (; ; (void) @*p) ;",
            "if (1) @*p;", "1 ? @*p : 0;"}) {
            b.traps(2, s + e + " }");
        }
    }

    private static void wraps(Bench b) {
        b.about("What comes into a char has its lowest byte");
        for (int value : new int[] {0, 1, 127, 128, 254, 255, 256, 257, 511, -1, -255, -256, 0x12345601}) {
            b.ends(value & 255, "int main() { int i = " + value + "; return (char) i; }");
            b.ends(value & 255, "int main() { int i = " + value + "; char c = i; return c; }");
            b.ends(value & 255, "int main() { int i = " + value + "; char c; return c = i; }");
            b.ends((value & 255) + 1, "int main() { int i = " + value + "; char c; return 1 + (c = i); }");
            b.ends(value + 1 & 255, "int main() { char c = " + value + "; return ++c; }");
            b.ends(value - 1 & 255, "int main() { char c = " + value + "; return c -= 1; }");
            b.ends(value * 3 & 255, "int main() { char c = " + value + "; char *p = &c; *p *= 3; return c; }");
            b.ends(value & 255, "char f(int i) { return i; } int main() { return f(" + value + "); }");
            b.ends(value & 255, "int f(char c) { return c; } int main() { return f(" + value + "); }");
        }
        b.about("op= through a pointer, with constants of any size");
        for (int value : new int[] {1, 2, 3, 7, 2047, 2048, -2048, -2049, 65535, 1000000}) {
            String set = "int a[3] = {1, 1000, 1}; int main() { int *p = a; int v = " + value + "; ";
            String[] ops = {"+", "-", "*", "/", "%", "&", "|", "^"};
            int[] due = {1000 + value, 1000 - value, 1000 * value, 1000 / value, 1000 % value, 1000 & value, 1000 | value, 1000 ^ value};
            for (int k = 0; k < ops.length; k++) {
                b.ends(due[k], set + "p[1] " + ops[k] + "= " + value + "; return a[1] + a[0] - a[2]; }");
                b.ends(due[k], set + "p[1] " + ops[k] + "= v; return a[1] + a[0] - a[2]; }");
                b.ends(due[k] + 5, set + "return 5 + (*(p + 1) " + ops[k] + "= " + value + "); }");
            }
        }
        b.about("Addresses, distances and int's wrap");
        b.ends(-4, "int main() { int *p = 0; p--; return (int) p; }");
        b.ends(0, "int main() { int *p = (int *) 0xfffffffc; p++; return (int) p; }");
        b.ends(0, "int main() { int *p = 0; return (int) (p + 0x40000000); }");
        b.ends(-8, "int main() { int *p = 0; return (int) (p + 0x3ffffffe); }");
        b.ends(4, "int main() { int *p = 0; int i = 0x40000001; return (int) &p[i]; }");
        b.ends(65, "int main() { char *p = (char *) 0xffffffff; return (int) &p[66]; }");
        b.ends(7, "char k[2] = {6, 7}; int main() { char *p = k; int i = 0x7fffffff; return p[i + i + 3]; }");
        b.about("the distance of two pointers is that of addresses as an int, divided by the size");
        b.ends(2, "int a[5]; int main() { return &a[3] - &a[1]; }");
        b.ends(-2, "int a[5]; int main() { return &a[1] - &a[3]; }");
        b.ends(0, "int main() { return (int *) 67 - (int *) 64; }");
        b.ends(0, "int main() { return (int *) 64 - (int *) 67; }");
        b.ends(-1, "int main() { return (int *) 64 - (int *) 68; }");
        b.ends(536870911, "int main() { return (int *) 0x7fffffff - (int *) 0; }");
        b.ends(-536870912, "int main() { return (int *) 0x80000000 - (int *) 0; }");
        b.ends(-1, "int main() { return (char *) 0 - (char *) 1; }");
        b.ends(1, "int main() { return (char *) 0 - (char *) 0xffffffff; }");
        b.ends(3, "struct S { char c[5]; }; int main() { return (struct S *) 79 - (struct S *) 64; }");
    }

    private static void divisions(Bench b) {
        b.about("/ and % by 0: TRAP 1 at the operator");
        for (String op : new String[] {"/", "%"}) {
            b.traps(1, "int main() { int z = 0; return 5 @" + op + " z; }");
            b.traps(1, "int main() { unsigned z = 0; return 5 @" + op + " z; }");
            b.traps(1, "int main() { char z = 0; int a = 0; return a @" + op + " z; }");
            b.traps(1, "int main() { int z = 0; z @" + op + "= z; }");
            b.traps(1, "int main() { int z = 0; 1 + 2 * (7 @" + op + " z); }");
            b.traps(1, "int main() { int z = 0; z ? 1 : 5 @" + op + " z; }");
            b.ends(0, "int main() { int z = 0; z && 5 " + op + " z; z ? 5 " + op + " z : 1; sizeof (5 " + op + " z); return 0; }");
            // The left one of op= is read ahead of that.
            b.traps(2, "int main() { int z = 0; int *p = 0; @*p " + op + "= z; }");
        }
        b.about("else they are cut (-2^31 / -1 is -2^31, the rest 0)");
        int[][] made = {{7, 2}, {-7, 2}, {7, -2}, {-7, -2}, {1, 2}, {-1, 2}, {Integer.MIN_VALUE, -1}, {Integer.MIN_VALUE, 1}, {Integer.MIN_VALUE, 2}, {Integer.MAX_VALUE, -1}, {0, 5}, {Integer.MIN_VALUE, Integer.MIN_VALUE}};
        for (int[] two : made) {
            String set = "int main() { int a = " + (two[0] == Integer.MIN_VALUE ? "-2147483647 - 1" : two[0]) + "; int d = " + (two[1] == Integer.MIN_VALUE ? "-2147483647 - 1" : two[1]) + "; ";
            b.ends(two[0] / two[1], set + "return a / d; }");
            b.ends(two[0] % two[1], set + "return a % d; }");
            b.ends(two[0] / two[1], set + "a /= d; return a; }");
            b.ends(two[0] % two[1], set + "a %= d; return a; }");
            b.ends(Integer.divideUnsigned(two[0], two[1]), set + "unsigned u = a; return u / d; }");
            b.ends(Integer.remainderUnsigned(two[0], two[1]), set + "unsigned u = d; return a % u; }");
        }
    }

    private static void shifts(Bench b) {
        b.about(">> of an int keeps its sign; shifts are by the lowest five bits");
        int[] values = {1, -1, Integer.MIN_VALUE + 5, 0x12345678};
        int[] counts = {0, 1, 4, 31, 32, 33, 63, 64, -1, -31, -32};
        for (int value : values) {
            for (int count : counts) {
                String set = "int main() { int a = " + value + "; int n = " + count + "; ";
                b.ends(value << count, set + "return a << n; }");
                b.ends(value >> count, set + "return a >> n; }");
                b.ends(value >>> count, set + "unsigned u = a; return u >> n; }");
                b.ends(value >> count, set + "unsigned u = n; a >>= u; return a; }");
                b.ends(value << count, set + "return a << " + count + "; }");
                b.ends(value >> count, set + "return a >> (" + count + "); }");
                b.ends(value >>> count, set + "return (unsigned) a >> (" + count + "); }");
            }
        }
        b.ends(127, "int main() { char c = 255; return c >> 1; }");
        b.ends(254, "int main() { char c = 255; c <<= 1; return c; }");
    }

    private static void comparisons(Bench b) {
        b.about("pointers and unsigned ones are compared without sign");
        String[] numbers = {"0", "1", "2147483647", "2147483648", "4294967295"};
        for (int i = 0; i < numbers.length; i++) {
            for (int k = 0; k < numbers.length; k++) {
                String both = numbers[i] + "; unsigned d = " + numbers[k] + "; ";
                String set = "int main() { unsigned a = " + both;
                int due = (i < k ? 1 : 0) + (i > k ? 2 : 0) + (i <= k ? 4 : 0) + (i >= k ? 8 : 0) + (i == k ? 16 : 0) + (i != k ? 32 : 0);
                String sum = "(A < D) + (A > D) * 2 + (A <= D) * 4 + (A >= D) * 8 + (A == D) * 16 + (A != D) * 32";
                b.ends(due, set + "return " + sum.replace("A", "a").replace("D", "d") + "; }");
                b.ends(due, set + "int *p = (int *) a; int *q = (int *) d; return " + sum.replace("A", "p").replace("D", "q") + "; }");
                b.ends(due, set + "int e = d; return " + sum.replace("A", "a").replace("D", "e") + "; }");
                int one = (int) Long.parseLong(numbers[i]);
                int two = (int) Long.parseLong(numbers[k]);
                int signed = (one < two ? 1 : 0) + (one > two ? 2 : 0) + (one <= two ? 4 : 0) + (one >= two ? 8 : 0) + (one == two ? 16 : 0) + (one != two ? 32 : 0);
                b.ends(signed, set + "int e = a; int g = d; return " + sum.replace("A", "e").replace("D", "g") + "; }");
            }
        }
    }
}
