/** Promises 8 and 10 to 13: look, thing, local, layout, frame. */
public final class AnswersTest {
    private static final String TEXT = "enum { A = 5, B }; int f(char c, int *p); struct P { char c; int v; char z[3]; struct P *n; }; "
        + "char k; struct P g[2]; void h(); int f(char d, int *q) { char e; { int x[3]; } for (struct P y; ; ) { char w; int v; return v; } } "
        + "int main() { char *s = \"ab\"; return f(1, 0); }";

    public static void main(String[] args) {
        Bench b = new Bench();
        things(b);
        locals(b);
        layouts(b);
        frames(b);
        frameTraps(b);
        looks(b);
        casts(b);
        b.close();
    }

    private static WordFoundry made(Bench b) {
        WordFoundry x = b.fresh();
        b.due(TEXT, Bench.cast(x, TEXT), 0);
        return x;
    }

    private static void row(Bench b, WordFoundry x, int i, int... due) {
        for (int what = 0; what < due.length; what++) {
            b.due("thing " + i + " " + what, x.thing(i, what), due[what]);
        }
    }

    private static void things(Bench b) {
        WordFoundry x = made(b);
        row(b, x, 0, 3, 5, -1, TEXT.indexOf("A = "), -1);
        row(b, x, 1, 3, 6, -1, TEXT.indexOf("B }"));
        row(b, x, 2, 2, 2, 48, TEXT.indexOf("f(char c"));
        row(b, x, 3, 1, 64, 1, TEXT.indexOf("k; "));
        row(b, x, 4, 1, 68, 32, TEXT.indexOf("g[2]"));
        row(b, x, 5, 2, 0, -1, TEXT.indexOf("h();"));
        row(b, x, 6, 2, 0, 4, TEXT.indexOf("main"));
        row(b, x, 7, -1, -1, -1, -1);
        row(b, x, -1, -1, -1, -1, -1);
        row(b, x, Integer.MAX_VALUE, -1, -1);
        b.due("thing 0 -1", x.thing(0, -1), -1);
        b.due("thing 0 max", x.thing(0, Integer.MAX_VALUE), -1);
        b.due("things", x.look(9), 7);
        Bench.cast(x, "int main() { x; }");
        row(b, x, 0, -1, -1, -1, -1);
    }

    private static void locals(Bench b) {
        WordFoundry x = made(b);
        String[] at = {"d, int *q", "q) {", "e; {", "x[3]", "y; ;", "w; int", "v; return"};
        int[] place = {0, 4, 8, 12, 24, 40, 44};
        int[] size = {1, 4, 1, 12, 16, 1, 4};
        for (int k = 0; k < place.length; k++) {
            b.due("local place " + k, x.local(2, k, 0), place[k]);
            b.due("local size " + k, x.local(2, k, 1), size[k]);
            b.due("local at " + k, x.local(2, k, 2), TEXT.indexOf(at[k]));
            b.due("local other " + k, x.local(2, k, 3), -1);
            b.due("local -1 " + k, x.local(2, k, -1), -1);
        }
        b.due("no such local", x.local(2, 7, 0), -1);
        b.due("local -1", x.local(2, -1, 0), -1);
        b.due("local max", x.local(2, Integer.MAX_VALUE, 0), -1);
        b.due("of an enum's name", x.local(0, 0, 0), -1);
        b.due("of a variable", x.local(3, 0, 0), -1);
        b.due("without a BLOCK", x.local(5, 0, 0), -1);
        b.due("of main", x.local(6, 0, 1), 4);
        b.due("of none", x.local(7, 0, 0), -1);
        b.due("of -1", x.local(-1, 0, 0), -1);
        Bench.cast(x, "int f(int a, int b); int main() { } ");
        b.due("PARAMS without a BLOCK", x.local(0, 0, 0), -1);
        b.due("their number", x.thing(0, 1), 2);
        b.due("no F", x.thing(0, 2), -1);
        b.due("main has none", x.local(1, 0, 0), -1);
        b.due("main's F", x.thing(1, 2), 0);
        Bench.cast(x, "int f(int a) { char b; } int f(int xx); int main() { }");
        b.due("PARAMS as the one with the BLOCK has them", x.local(0, 0, 2), 10);
        b.due("others too", x.local(0, 1, 0), 4);
        b.due("F is rounded up", x.thing(0, 2), 8);
    }

    private static void layouts(Bench b) {
        WordFoundry x = made(b);
        int[] due = {0, 4, 8, 12, -1};
        for (int k = 0; k < due.length; k++) {
            b.due("field " + k, x.layout(0, k), due[k]);
        }
        b.due("size", x.layout(0, -1), 16);
        b.due("k -2", x.layout(0, -2), -1);
        b.due("no such struct", x.layout(1, -1), -1);
        b.due("struct -1", x.layout(-1, -1), -1);
        b.due("k max", x.layout(0, Integer.MAX_VALUE), -1);
        b.due("structs", x.look(10), 1);
        Bench.cast(x, "struct Z *z; struct A { char a[3]; char b; char c; }; struct B { char a; struct A b[2]; struct A c; int d; char e; }; "
            + "struct C { char x; struct B b; }; struct D { int a[2][3], *b, c; char d[5]; }; int main() { }");
        b.due("structs that are complete", x.look(10), 4);
        int[][] places = {{0, 3, 4}, {0, 1, 11, 16, 20}, {0, 4}, {0, 24, 28, 32}};
        int[] sizes = {5, 24, 28, 40};
        for (int s = 0; s < sizes.length; s++) {
            b.due("size " + s, x.layout(s, -1), sizes[s]);
            for (int k = 0; k < places[s].length; k++) {
                b.due("place " + s + " " + k, x.layout(s, k), places[s][k]);
            }
            b.due("no more " + s, x.layout(s, places[s].length), -1);
        }
        Bench.cast(x, "struct A { int a; }; int main() { }");
        b.due("those of an earlier text are gone", x.layout(1, -1), -1);
    }

    private static void frames(Bench b) {
        String text = "int g(int a, int b) { int c; return a + b; } int f(int n) { return g(n, 1) + g(n, 2); } int main() { int z[2]; return f(3); }";
        WordFoundry x = b.fresh();
        Bench.cast(x, text);
        b.due("ahead of a begin", x.frame(0, 0), -1);
        x.begin(1024);
        frame(b, x, 0, 2, 1016, -1);
        b.due("one FRAME", x.frame(1, 0), -1);
        x.go(1);
        frame(b, x, 0, 1, 1012, text.indexOf("(3)"));
        frame(b, x, 1, 2, 1016, -1);
        x.go(1);
        b.due("three", x.look(6), 3);
        frame(b, x, 0, 0, 1000, text.indexOf("(n, 1)"));
        frame(b, x, 1, 1, 1012, text.indexOf("(3)"));
        frame(b, x, 2, 2, 1016, -1);
        b.due("arguments are in their places", x.peek(1000) + 256 * x.peek(1004), 3 + 256);
        x.go(1);
        frame(b, x, 0, 0, 1000, text.indexOf("(n, 2)"));
        b.due("other", x.frame(0, 3), -1);
        b.due("other", x.frame(0, -1), -1);
        b.due("d", x.frame(3, 0), -1);
        b.due("d -1", x.frame(-1, 0), -1);
        b.due("d max", x.frame(Integer.MAX_VALUE, 0), -1);
        x.go(1000);
        b.due("ended", x.look(2), 9);
        b.due("none when ENDED", x.frame(0, 0), -1);
        b.due("least SP", x.look(7), 1000);
        String again = "int n; int main() { if (n++ < 2) return main() + 1; return 5; }";
        Bench.cast(x, again);
        x.begin(1024);
        x.go(2);
        frame(b, x, 0, 1, 1024, again.indexOf("() + 1"));
        x.go(9);
        b.due("main within main", x.look(2), 7);
    }

    private static void frame(Bench b, WordFoundry x, int d, int thing, int sp, int place) {
        b.due("frame " + d + "'s function", x.frame(d, 0), thing);
        b.due("frame " + d + "'s SP", x.frame(d, 1), sp);
        b.due("frame " + d + "'s place", x.frame(d, 2), place);
    }

    private static void frameTraps(Bench b) {
        String text = "int f(int n) { return f(n + 1); } int main() { return f(1); }";
        WordFoundry x = b.fresh();
        Bench.cast(x, text);
        x.begin(4096);
        b.due("200 FRAMES", x.go(1000), 200);
        b.due("trapped", x.look(1), 4);
        b.due("TRAP 4", x.look(2), 4);
        b.due("at its (", x.look(3), text.indexOf("(n + 1)"));
        b.due("frames stay", x.look(6), 200);
        b.due("SP stays", x.frame(0, 1), 4096 - 199 * 4);
        b.due("least SP", x.look(7), 4096 - 199 * 4);
        b.due("the outermost", x.frame(199, 0), 1);
        b.due("no more", x.frame(200, 0), -1);
        String wide = "char d[100]; int f(int n) { char a[256]; put(n); return f(n + 1); } int main() { return f(get()); }";
        Bench.cast(x, wide);
        x.begin(1024);
        b.due("rounds", x.go(1000), 4);
        b.due("TRAP 4 at the end of DATA", x.look(2), 4);
        b.due("frames", x.look(6), 4);
        b.due("least SP", x.look(7), 1024 - 3 * 260);
        b.due("arguments were worked out", x.look(5), 3);
        // 1024 - 164 is 860, of which three FRAMES of 260 leave 80; four would fit with 204 bytes less of DATA.
        Bench.cast(x, "char d[" + (960 - 3 * 260) + "]; int f(int n) { char a[256]; return n ? f(n - 1) : 7; } int main() { return f(2); }");
        x.begin(1024);
        x.go(1000);
        b.due("up to the end of DATA itself", x.look(2), 7);
        b.due("least SP is the end of DATA", x.look(7), x.look(8));
    }

    private static void looks(Bench b) {
        WordFoundry x = b.fresh();
        Bench.feed(x, "int a; struct A { int b; }; enum { E }; int main() { put(a); while (1) put(\"xyz\"[0]); }");
        b.due("tape", x.look(0) > 0, true);
        x.cast();
        int[] cast = {0, 1, 0, -1, 0, 0, 0, 0, 72, 3, 1, 0, 0, -1};
        for (int what = 0; what < cast.length; what++) {
            b.due("look " + what, x.look(what), cast[what]);
        }
        x.begin(2048);
        x.go(3);
        int[] stands = {0, 2, 0, -1, 3, 3, 1, 2048, 72, 3, 1, 0, 2048};
        for (int what = 0; what < stands.length; what++) {
            b.due("standing look " + what, x.look(what), stands[what]);
        }
        b.due("look min", x.look(Integer.MIN_VALUE), -1);
        b.due("look max", x.look(Integer.MAX_VALUE), -1);
        Bench.cast(x, "int main() { }");
        b.due("end of DATA without any", x.look(8), 64);
        b.due("what ran is gone", x.look(4) + x.look(5) + x.look(6) + x.look(7) + x.look(12), 0);
        x.begin(1024);
        x.go(1);
        x.cast();
        int[] none = {0, 0, 0, -1, 0, 0, 0, 0, 0, 0, 0, 0, 0};
        for (int what = 0; what < none.length; what++) {
            b.due("look without a program " + what, x.look(what), none[what]);
        }
    }

    /** Many casts on one object, right ones and wrong ones, don't know of one another. */
    private static void casts(Bench b) {
        WordFoundry x = b.fresh();
        for (int k = 0; k < 60; k++) {
            b.due("wrong", Bench.cast(x, "char big[300] = \"zzzzzzzz\"; struct Q { int a; }; int f(int a) { int k; { int a; for (int b; ; ) x; } }") & 15, 3);
            b.due("f is not known", Bench.cast(x, "int main() { return f(1); }"), 16 * 20 + 3);
            b.due("right", Bench.cast(x, "int z; struct Q { char a; }; int f() { return sizeof (struct Q); } int main() { int a; return f() + z; }"), 0);
            x.begin(1024);
            b.due("DATA is clean", x.peek(64) + x.peek(65) + x.peek(70), 0);
            x.go(5);
            b.due("ended", x.look(2), 1);
        }
    }
}
