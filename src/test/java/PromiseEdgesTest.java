/** Promises 1 to 13, sentence by sentence: the last that is taken, the first that is refused, and that a refused call does nothing. */
public final class PromiseEdgesTest {
    private static final int[] ODD = {Integer.MIN_VALUE, Integer.MIN_VALUE + 1, -65536, -2, Integer.MAX_VALUE - 1, Integer.MAX_VALUE};
    private static final String LOOP = "int a = 5; char b; int f(int n) { char k; return n; } int main() { int i = 3; while (1) { put('a' + i % 26); i++; f(i); } }";

    public static void main(String[] args) {
        Bench b = new Bench();
        made(b);
        feeds(b);
        fedBytes(b);
        casts(b);
        supplies(b);
        begins(b);
        beginsAnew(b);
        goes(b);
        outs(b);
        looks(b);
        looksBeforeAndAfter(b);
        peeks(b);
        things(b);
        locals(b);
        layouts(b);
        frames(b);
        b.close();
    }

    private static WordFoundry cast(Bench b, String text) {
        WordFoundry x = b.fresh();
        b.due(text, Bench.cast(x, text), 0);
        return x;
    }

    private static void made(Bench b) {
        b.about("An empty tape, no program, an empty INPUT");
        WordFoundry x = b.fresh();
        b.due("tape", x.look(0), 0);
        b.due("program", x.look(1), 0);
        b.due("INPUT", x.look(11), 0);
        b.due("supply", x.supply(), 0);
        b.due("begin", x.begin(1024), false);
        b.due("cast of an empty tape", x.cast(), 11);
        b.about("NONE = -1");
        b.due("NONE", WordFoundry.NONE, -1);
    }

    private static void feeds(Bench b) {
        b.about("n bytes (1 to 24) come to the tape: how many there are. NONE, doing nothing, for another n");
        for (int n = 1; n <= 24; n++) {
            WordFoundry x = b.fresh();
            b.due("feed " + n, x.feed(n, 1, 2, 3), n);
            b.due("feed " + n + " again", x.feed(n, 1, 2, 3), 2 * n);
            b.due("tape", x.look(0), 2 * n);
        }
        WordFoundry x = cast(b, LOOP);
        x.begin(1024);
        x.go(5);
        x.feed(3, 0x313233, 0, 0);
        String before = Bench.state(x);
        for (int n : new int[] {0, -1, 25, 26, 100, 4093, 4096}) {
            b.due("feed " + n, x.feed(n, -1, -1, -1), -1);
        }
        for (int n : ODD) {
            b.due("feed " + n, x.feed(n, -1, -1, -1), -1);
        }
        b.due("nothing was done", Bench.state(x), before);
        b.due("supply", x.supply(), 3);
        b.about("or beyond 4096");
        for (int last = 1; last <= 24; last++) {
            WordFoundry y = b.fresh();
            for (int k = 0; k < 169; k++) {
                y.feed(24, 0x2020202020202020L, 0x2020202020202020L, 0x2020202020202020L);
            }
            b.due("24 are to go", y.feed(16, 0x2020202020202020L, 0x2020202020202020L, 0), 4072);
            b.due("up to " + (4072 + last), y.feed(last, 0x2020202020202020L, 0x2020202020202020L, 0x2020202020202020L), 4072 + last);
            for (int n = 1; n <= 24; n++) {
                if (last + n > 24) {
                    b.due("beyond by " + (last + n - 24), y.feed(n, -1, -1, -1), -1);
                }
            }
            b.due("it stays", y.look(0), 4072 + last);
            b.due("only blanks are there", y.cast(), 16 * (4072 + last) + 11);
        }
        b.about("a full tape is taken whole");
        WordFoundry y = b.fresh();
        String text = "int main() { return 6; }";
        b.due("cast", Bench.cast(y, " ".repeat(4096 - text.length()) + text), 0);
        b.due("used up", y.look(0), 0);
        b.due("fault in the last byte", Bench.cast(y, " ".repeat(4095) + "#"), 16 * 4095 + 1);
        b.due("fault behind the last byte", Bench.cast(y, " ".repeat(4095) + ";"), 16 * 4095 + 2);
        WordFoundry z = b.fresh();
        Bench.feed(z, "x".repeat(4096));
        b.due("INPUT of 4096", z.supply(), 4096);
        b.due("all are left", z.look(11), 4096);
    }

    private static void fedBytes(Bench b) {
        b.about("of a, b, c eight each, the lowest one first");
        WordFoundry x = cast(b, "int main() { int k; while ((k = get()) != -1) put(k); }");
        b.due("24", x.feed(24, 0x0807060504030201L, 0x100f0e0d0c0b0a09L, 0x1817161514131211L), 24);
        b.due("7", x.feed(7, 0xff1f1e1d1c1b1a19L, -1, -1), 31);
        b.due("9", x.feed(9, 0x2726252423222120L, 0xff28L, -1), 40);
        b.due("17", x.feed(17, 0xf0e0d0c0b0a09080L, 0x8000000000000000L, 0x7f), 57);
        x.supply();
        x.begin(1024);
        x.go(100);
        for (int i = 0; i < 40; i++) {
            b.due("byte " + i, x.out(i), i + 1);
        }
        int[] due = {0x80, 0x90, 0xa0, 0xb0, 0xc0, 0xd0, 0xe0, 0xf0, 0, 0, 0, 0, 0, 0, 0, 0x80, 0x7f, -1};
        for (int i = 0; i < due.length; i++) {
            b.due("byte " + (40 + i), x.out(40 + i), due[i]);
        }
        b.due("left", x.look(11), 0);
    }

    private static void casts(Bench b) {
        b.about("The tape is a text, and is used up: 0, and there is its program; or its fault, and there is none");
        WordFoundry x = cast(b, LOOP);
        b.due("used up", x.look(0), 0);
        b.due("cast", x.look(1), 1);
        x.begin(1024);
        x.go(9);
        b.due("a fault", Bench.cast(x, "int main() { x; }"), 16 * 13 + 3);
        b.due("used up, too", x.look(0), 0);
        b.due("no program", x.look(1), 0);
        b.due("no begin", x.begin(1024), false);
        b.due("no go", x.go(1), -1);
        b.due("nothing of the first one", Bench.state(x), Bench.state(new WordFoundry()));
        for (String wrong : new String[] {"#", "int", "int x; int x;", "int f(); int g() { f(); }"}) {
            Bench.cast(x, LOOP);
            b.due("a fault of any stage", Bench.cast(x, wrong) != 0, true);
            b.due("takes the program away", Bench.state(x), Bench.state(new WordFoundry()));
        }
        b.about("What ran before, its MEMORY and OUTPUT are gone");
        Bench.cast(x, LOOP);
        x.begin(1024);
        x.go(50);
        Bench.cast(x, "int main() { }");
        b.due("as if it were new", Bench.state(x), Bench.state(cast(b, "int main() { }")));
        b.due("MEMORY", x.peek(64), -1);
        b.due("OUTPUT", x.out(0), -1);
        b.due("FRAMES", x.frame(0, 0), -1);
        b.due("none stands", x.go(1), -1);
        b.about("the INPUT stays");
        Bench.feed(x, "abc");
        x.supply();
        Bench.cast(x, "#");
        b.due("behind a fault", x.look(11), 3);
        Bench.cast(x, "int main() { return get(); }");
        b.due("behind a cast", x.look(11), 3);
        x.begin(1024);
        x.go(1);
        b.due("its first byte", x.look(2), 'a');
    }

    private static void supplies(Bench b) {
        b.about("The tape becomes the INPUT, from its first byte on, and is used up: how many bytes");
        WordFoundry x = cast(b, "int main() { while (1) put(get()); }");
        Bench.feed(x, "abc");
        b.due("three", x.supply(), 3);
        b.due("used up", x.look(0), 0);
        b.due("left", x.look(11), 3);
        x.begin(1024);
        x.go(3);
        b.due("two were taken", x.look(11), 1);
        Bench.feed(x, "xyz1");
        b.due("fed bytes aren't INPUT yet", x.look(11), 1);
        b.due("four, while it runs", x.supply(), 4);
        b.due("the earlier one is gone", x.look(11), 4);
        x.go(1);
        b.due("from its first byte on", x.out(2), 'x');
        b.due("none", x.supply(), 0);
        b.due("an empty INPUT", x.look(11), 0);
        x.go(1);
        b.due("-1", x.out(3), 255);
        b.due("none is taken then", x.look(11), 0);
        b.due("the run isn't changed", x.look(4), 5);
    }

    private static void begins(Bench b) {
        b.about("True; False, doing nothing: there is none, size isn't a multiple of 4 from 1024 to 65536");
        for (int size : new int[] {1024, 1028, 1032, 4096, 65528, 65532, 65536}) {
            WordFoundry x = cast(b, LOOP);
            b.due("begin " + size, x.begin(size), true);
            b.due("SIZE", x.look(12), size);
            b.due("stands", x.look(1), 2);
        }
        WordFoundry fresh = b.fresh();
        b.due("no program", fresh.begin(1024), false);
        b.due("nothing was done", Bench.state(fresh), Bench.state(new WordFoundry()));
        WordFoundry x = cast(b, LOOP);
        String before = Bench.state(x);
        int[] wrong = {0, 4, -4, -1024, 1020, 1021, 1022, 1023, 1025, 1026, 1027, 65533, 65534, 65535, 65537, 65538, 65539, 65540, 131072};
        for (int size : wrong) {
            b.due("begin " + size, x.begin(size), false);
        }
        for (int size : ODD) {
            b.due("begin " + size, x.begin(size), false);
        }
        b.due("nothing was done ahead of a begin", Bench.state(x), before);
        x.begin(2048);
        x.go(30);
        before = Bench.state(x);
        for (int size : wrong) {
            b.due("begin " + size + " in a run", x.begin(size), false);
        }
        b.due("nothing was done to a run", Bench.state(x), before);
        b.due("it goes on", x.go(1), 1);
        b.about("or main's FRAME would not fit behind DATA");
        for (int data = 0; data <= 8; data += 4) {
            for (int frame = 944; frame <= 964; frame += 4) {
                String text = (data == 0 ? "" : "char d[" + (data - 3) + "]; ") + "int main() { char a[" + frame + "]; }";
                WordFoundry y = cast(b, text);
                before = Bench.state(y);
                boolean fits = 64 + data + frame <= 1024;
                b.due(text, y.begin(1024), fits);
                if (!fits) {
                    b.due("nothing was done", Bench.state(y), before);
                    b.due("more is enough", y.begin(1052), true);
                } else {
                    b.due("its FRAME", y.frame(0, 1), 1024 - frame);
                }
            }
        }
        WordFoundry y = cast(b, "int f() { char a[2000]; } int main() { }");
        b.due("other FRAMES don't count", y.begin(1024), true);
        y = cast(b, "char d[2000]; int main() { }");
        b.due("DATA alone don't fit", y.begin(2060), false);
        b.due("DATA alone fit", y.begin(2064), true);
        b.due("no byte is between them", y.frame(0, 1), y.look(8));
    }

    private static void beginsAnew(Bench b) {
        b.about("The program begins anew: no OUTPUT, the INPUT as far as it was not taken, main's FRAME, ahead of its ROUND");
        String text = "int a = 5; int main() { int k = get(); a = k; put(k); put(a); if (k == 'c') *(int *) 0; while (k == 'b') a++; return k; }";
        WordFoundry x = cast(b, text);
        Bench.feed(x, "abcd");
        x.supply();
        String[] ends = {"3 97", "2 0", "4 2", "3 100", "3 -1"};
        for (int k = 0; k < ends.length; k++) {
            b.due("begin " + k, x.begin(1024), true);
            b.due("stands", x.look(1), 2);
            b.due("no end", x.look(2), 0);
            b.due("no TRAP's place", x.look(3), -1);
            b.due("no ROUND", x.look(4), 0);
            b.due("no OUTPUT", x.look(5), 0);
            b.due("none is kept", x.out(0), -1);
            b.due("main's FRAME", x.look(6), 1);
            b.due("the least SP", x.look(7), 1020);
            b.due("MEMORY", x.peek(64), 5);
            b.due("what is left", x.look(11), Math.max(4 - k, 0));
            b.due("its function", x.frame(0, 0), 1);
            b.due("no CALL", x.frame(0, 2), -1);
            x.go(5);
            b.due("how run " + k + " ends", x.look(1) + " " + x.look(2), ends[k]);
        }
    }

    private static void goes(Bench b) {
        b.about("It goes on up to the n-th ROUND (0 to 1000): how many ROUNDS began");
        for (int n : new int[] {0, 1, 2, 3, 999, 1000}) {
            WordFoundry x = cast(b, LOOP);
            x.begin(1024);
            b.due("go " + n, x.go(n), n);
            b.due("ROUNDS", x.look(4), n);
            b.due("stands", x.look(1), 2);
            b.due("go on", x.go(1), 1);
            b.due("ROUNDS", x.look(4), n + 1);
        }
        b.about("NONE, doing nothing, when none stands, or for another n");
        WordFoundry x = b.fresh();
        b.due("no program", x.go(1), -1);
        b.due("nothing was done", Bench.state(x), Bench.state(new WordFoundry()));
        x = cast(b, LOOP);
        String before = Bench.state(x);
        b.due("ahead of a begin", x.go(1), -1);
        b.due("ahead of a begin, 0", x.go(0), -1);
        b.due("nothing was done", Bench.state(x), before);
        x.begin(1024);
        x.go(7);
        before = Bench.state(x);
        for (int n : new int[] {-1, 1001, 1002, 2000}) {
            b.due("go " + n, x.go(n), -1);
        }
        for (int n : ODD) {
            b.due("go " + n, x.go(n), -1);
        }
        b.due("nothing was done", Bench.state(x), before);
        b.due("go 0", x.go(0), 0);
        b.due("go 0 stays where it is", Bench.state(x), before);
        b.about("it is ENDED, TRAPPED, or stands ahead of the next one");
        String[] texts = {"int main() { put(1); return 4; }", "int main() { put(1); return 4 / (get() + 1); }"};
        for (int k = 0; k < 2; k++) {
            for (int n : new int[] {1, 2, 1000}) {
                WordFoundry y = cast(b, texts[k]);
                y.begin(1024);
                b.due("ahead of its ROUND", y.look(5), 0);
                b.due("go " + n, y.go(n), 1);
                b.due("how it is", y.look(1), k == 0 ? 3 : 4);
                before = Bench.state(y);
                b.due("none stands", y.go(n), -1);
                b.due("none stands, 0", y.go(0), -1);
                b.due("nothing was done", Bench.state(y), before);
            }
        }
        WordFoundry y = cast(b, "int main() { put('a'); do put('b'); while (get() != -1); put('c'); return 3; }");
        y.begin(1024);
        b.due("main's ROUND", y.go(1), 1);
        b.due("up to ahead of the next one", y.look(5), 1);
        b.due("the last ROUND", y.go(1), 1);
        b.due("and to the end", y.look(5), 3);
        b.due("ENDED", y.look(1), 3);
        y.begin(1024);
        b.due("fewer than asked for", y.go(3), 2);
        y = cast(b, "int f() { put('f'); return 1; } int main() { put('a'); f(); put('b'); }");
        y.begin(1024);
        y.go(1);
        b.due("ahead of f's ROUND its FRAME is there", y.look(6), 2);
        b.due("f hasn't begun", y.look(5), 1);
    }

    private static void outs(Bench b) {
        b.about("Byte i of the OUTPUT; NONE when it isn't kept");
        WordFoundry x = cast(b, "int main() { put(0); put(255); put('c'); while (1) ; }");
        b.due("ahead of a begin", x.out(0), -1);
        x.begin(1024);
        b.due("ahead of its ROUND", x.out(0), -1);
        x.go(1);
        int[] due = {0, 255, 'c', -1, -1};
        for (int i = 0; i < due.length; i++) {
            b.due("out " + i, x.out(i), due[i]);
        }
        for (int i : ODD) {
            b.due("out " + i, x.out(i), -1);
        }
        b.due("out -1", x.out(-1), -1);
        b.due("out 4095", x.out(4095), -1);
        b.due("out 4096", x.out(4096), -1);
        // 4096 and one more.
        for (int many = 4095; many <= 4097; many++) {
            WordFoundry y = cast(b, "int main() { for (int i = 0; i < " + many + "; i++) put(i % 251); while (1) ; }");
            y.begin(1024);
            for (int k = 0; k < 5; k++) {
                y.go(1000);
            }
            b.due("sent", y.look(5), many);
            b.due("out 4094", y.out(4094), 4094 % 251);
            b.due("out 4095", y.out(4095), many >= 4096 ? 4095 % 251 : -1);
            b.due("out 4096", y.out(4096), -1);
            b.due("out 4097", y.out(4097), -1);
        }
    }

    private static void looks(Bench b) {
        b.about("0 bytes on the tape; .. 12 SIZE. NONE for others");
        String text = "struct S { int a; }; struct N *n; enum { E }; int g = 2; int f(int a) { put(a); return a ? f(a - 1) : 9; } int main() { return f(g) + get() / (get() - 98); }";
        WordFoundry x = cast(b, text);
        Bench.feed(x, "abc");
        x.supply();
        Bench.feed(x, "tape");
        int[] cast = {4, 1, 0, -1, 0, 0, 0, 0, 72, 5, 1, 3, 0};
        row(b, "cast", x, cast);
        x.begin(2048);
        row(b, "begun", x, 4, 2, 0, -1, 0, 0, 1, 2048, 72, 5, 1, 3, 2048);
        x.go(2);
        row(b, "in f", x, 4, 2, 0, -1, 2, 1, 3, 2040, 72, 5, 1, 3, 2048);
        x.go(9);
        row(b, "TRAPPED", x, 4, 4, 1, text.indexOf("/ (get"), 4, 3, 1, 2036, 72, 5, 1, 1, 2048);
        x.begin(1024);
        x.go(1000);
        row(b, "ENDED", x, 4, 3, 9 + 'c' / -99, -1, 4, 3, 0, 1012, 72, 5, 1, 0, 1024);
        for (int what : ODD) {
            b.due("look " + what, x.look(what), -1);
        }
        b.due("look -1", x.look(-1), -1);
        b.due("look 13", x.look(13), -1);
        b.due("look 14", x.look(14), -1);
    }

    private static void row(Bench b, String when, WordFoundry x, int... due) {
        for (int what = 0; what < due.length; what++) {
            b.due("look " + what + " when " + when, x.look(what), due[what]);
        }
        b.due("look 13 when " + when, x.look(13), -1);
    }

    private static void looksBeforeAndAfter(Bench b) {
        b.about("4 to 7 and 12: 0 ahead of a begin; 8 to 10: 0 without a program");
        WordFoundry x = b.fresh();
        row(b, "new", x, 0, 0, 0, -1, 0, 0, 0, 0, 0, 0, 0, 0, 0);
        Bench.cast(x, "struct S { int a; }; int g; int main() { put(1); return 7; }");
        row(b, "cast", x, 0, 1, 0, -1, 0, 0, 0, 0, 68, 2, 1, 0, 0);
        x.begin(1024);
        x.go(1);
        row(b, "ENDED", x, 0, 3, 7, -1, 1, 1, 0, 1024, 68, 2, 1, 0, 1024);
        Bench.cast(x, "int main() { put(1); *(int *) 0; }");
        row(b, "cast again", x, 0, 1, 0, -1, 0, 0, 0, 0, 64, 1, 0, 0, 0);
        x.begin(1024);
        x.go(1);
        row(b, "TRAPPED", x, 0, 4, 2, 21, 1, 1, 1, 1024, 64, 1, 0, 0, 1024);
        x.cast();
        row(b, "a fault", x, 0, 0, 0, -1, 0, 0, 0, 0, 0, 0, 0, 0, 0);
        b.about("6 FRAMES (0 when ENDED); 7 the least SP since begin");
        x = cast(b, "void f() { int a[10]; } void g() { int a[5]; } int main() { g(); f(); g(); halt(1); }");
        x.begin(1024);
        int[] least = {1024, 1004, 984, 984};
        for (int k = 0; k < least.length; k++) {
            b.due("the least SP " + k, x.look(7), least[k]);
            b.due("FRAMES " + k, x.look(6), k == 0 ? 1 : 2);
            x.go(1);
        }
        b.due("ENDED", x.look(6), 0);
        b.due("it stays", x.look(7), 984);
        x.begin(2048);
        b.due("since begin", x.look(7), 2048);
    }

    private static void peeks(Bench b) {
        b.about("Byte of MEMORY at an address; NONE ahead of a begin, or when there is none");
        WordFoundry x = cast(b, "char a[2] = {255, 128}; int main() { return 1; }");
        b.due("ahead of a begin", x.peek(64), -1);
        x.begin(1028);
        int[] at = {-1, 0, 63, 64, 65, 66, 1023, 1027, 1028, 1029, 65535, 65536};
        int[] due = {-1, 0, 0, 255, 128, 0, 0, 0, -1, -1, -1, -1};
        for (int k = 0; k < at.length; k++) {
            b.due("peek " + at[k], x.peek(at[k]), due[k]);
        }
        for (int address : ODD) {
            b.due("peek " + address, x.peek(address), -1);
        }
        x.go(1);
        b.due("when ENDED", x.peek(64), 255);
        x.begin(65536);
        b.due("the last one", x.peek(65535), 0);
        b.due("behind it", x.peek(65536), -1);
        Bench.cast(x, "int main() { }");
        b.due("ahead of the next begin", x.peek(64), -1);
        x.begin(1024);
        b.due("of the next one", x.peek(64), 0);
    }

    private static void things(Bench b) {
        b.about("Of thing i of the text (variables, functions, enum's names, in the order in which they were told first)");
        String text = "int f(int a); char v; enum { A = 7, B = -1 }; int main() { int z; } int w[3], *y; int f(int b) { char c; } int f(int d); struct S { int q; }; void h(int e, int g);";
        WordFoundry x = cast(b, text);
        int[][] due = {{2, 1, 8, text.indexOf("f(int a")}, {1, 64, 1, text.indexOf("v;")}, {3, 7, -1, text.indexOf("A =")}, {3, -1, -1, text.indexOf("B =")}, {2, 0, 4, text.indexOf("main")},
            {1, 68, 12, text.indexOf("w[3]")}, {1, 80, 4, text.indexOf("y;")}, {2, 2, -1, text.indexOf("h(int e")}};
        for (int i = 0; i < due.length; i++) {
            for (int what = 0; what < 4; what++) {
                b.due("thing " + i + " " + what, x.thing(i, what), due[i][what]);
            }
            b.due("thing " + i + " 4", x.thing(i, 4), -1);
            b.due("thing " + i + " -1", x.thing(i, -1), -1);
        }
        b.due("things", x.look(9), due.length);
        b.about("NONE for others");
        for (int what = -1; what < 5; what++) {
            b.due("behind the last one", x.thing(due.length, what), -1);
            b.due("ahead of the first one", x.thing(-1, what), -1);
        }
        for (int odd : ODD) {
            b.due("thing " + odd, x.thing(odd, 0), -1);
            b.due("what " + odd, x.thing(0, odd), -1);
        }
        Bench.cast(x, "#");
        b.due("without a program", x.thing(0, 0), -1);
        b.due("of a new one", new WordFoundry().thing(0, 0), -1);
    }

    private static void locals(Bench b) {
        b.about("Of variable k of function i (as a thing): 0 its place in the FRAME, 1 its size, 2 the place of its NAME (of PARAMS as the one with the BLOCK has them)");
        String text = "int v; int f(char aa, int bb); enum { E }; int f(char a, int b) { char c[3]; { struct S *d; } } int f(char x, int y); void g(int z); int main() { }";
        WordFoundry x = cast(b, text);
        int[][] due = {{0, 1, text.indexOf("a, int b)")}, {4, 4, text.indexOf("b) {")}, {8, 3, text.indexOf("c[3]")}, {12, 4, text.indexOf("d; }")}};
        for (int k = 0; k < due.length; k++) {
            for (int what = 0; what < 3; what++) {
                b.due("local " + k + " " + what, x.local(1, k, what), due[k][what]);
            }
            b.due("local " + k + " 3", x.local(1, k, 3), -1);
            b.due("local " + k + " -1", x.local(1, k, -1), -1);
        }
        b.about("NONE for others, or without a BLOCK");
        for (int what = 0; what < 3; what++) {
            b.due("behind the last one", x.local(1, due.length, what), -1);
            b.due("ahead of the first one", x.local(1, -1, what), -1);
            b.due("of a variable", x.local(0, 0, what), -1);
            b.due("of an enum's name", x.local(2, 0, what), -1);
            b.due("without a BLOCK", x.local(3, 0, what), -1);
            b.due("of main, which has none", x.local(4, 0, what), -1);
            b.due("of no thing", x.local(5, 0, what), -1);
            b.due("of thing -1", x.local(-1, 0, what), -1);
        }
        for (int odd : ODD) {
            b.due("function " + odd, x.local(odd, 0, 0), -1);
            b.due("variable " + odd, x.local(1, odd, 0), -1);
            b.due("what " + odd, x.local(1, 0, odd), -1);
        }
        b.due("of a new one", new WordFoundry().local(0, 0, 0), -1);
        Bench.cast(x, "#");
        b.due("without a program", x.local(1, 0, 0), -1);
    }

    private static void layouts(Bench b) {
        b.about("Of the s-th struct that became complete: field k's place; its size for k NONE. NONE for others");
        WordFoundry x = cast(b, "struct C *c; struct A { char a; int b; }; struct N *n; struct C { char a[3]; struct A b; char d; }; int main() { struct Z *z; }");
        int[][] due = {{8, 0, 4, -1}, {16, 0, 4, 12, -1}, {-1, -1}};
        for (int s = 0; s < due.length; s++) {
            for (int k = 0; k < due[s].length; k++) {
                b.due("layout " + s + " " + (k - 1), x.layout(s, k - 1), due[s][k]);
            }
            b.due("layout " + s + " -2", x.layout(s, -2), -1);
        }
        b.due("structs", x.look(10), 2);
        b.due("struct -1", x.layout(-1, -1), -1);
        b.due("struct -1's field", x.layout(-1, 0), -1);
        for (int odd : ODD) {
            b.due("struct " + odd, x.layout(odd, -1), -1);
            b.due("field " + odd, x.layout(0, odd), -1);
        }
        b.due("of a new one", new WordFoundry().layout(0, -1), -1);
        Bench.cast(x, "#");
        b.due("without a program", x.layout(0, -1), -1);
        StringBuilder many = new StringBuilder();
        for (int k = 0; k < 100; k++) {
            many.append("struct S").append(k).append("{char a[").append(k + 1).append("];};");
        }
        x = cast(b, many + "int main(){}");
        b.due("a hundred structs", x.look(10), 100);
        b.due("the last one", x.layout(99, -1), 100);
        b.due("no more", x.layout(100, -1), -1);
    }

    private static void frames(Bench b) {
        b.about("Of the d-th FRAME (0 the innermost): 0 its function (as a thing), 1 its SP, 2 the place of its CALL's ( (main: NONE). NONE for others");
        String text = "enum { E }; int g(int a) { return a; } int f(int a, int b) { return g(a) + g(b); } int main() { int k; return f(1, 2) + g(3); }";
        WordFoundry x = cast(b, text);
        b.due("ahead of a begin", x.frame(0, 0), -1);
        x.begin(1024);
        frame(b, x, 0, 3, 1020, -1);
        none(b, x, 1);
        x.go(1);
        frame(b, x, 0, 2, 1012, text.indexOf("(1, 2)"));
        frame(b, x, 1, 3, 1020, -1);
        none(b, x, 2);
        x.go(1);
        frame(b, x, 0, 1, 1008, text.indexOf("(a) +"));
        frame(b, x, 1, 2, 1012, text.indexOf("(1, 2)"));
        frame(b, x, 2, 3, 1020, -1);
        none(b, x, 3);
        x.go(1);
        frame(b, x, 0, 1, 1008, text.indexOf("(b);"));
        x.go(1);
        frame(b, x, 0, 1, 1016, text.indexOf("(3)"));
        frame(b, x, 1, 3, 1020, -1);
        none(b, x, 2);
        for (int odd : ODD) {
            b.due("FRAME " + odd, x.frame(odd, 0), -1);
            b.due("what " + odd, x.frame(0, odd), -1);
        }
        b.due("what 3", x.frame(0, 3), -1);
        b.due("what -1", x.frame(0, -1), -1);
        b.due("FRAME -1", x.frame(-1, 0), -1);
        x.go(1);
        b.due("ENDED", x.look(1), 3);
        none(b, x, 0);
        text = "int f(int n) { if (n == 3) *(int *) 0; return f(n + 1); } int main() { return f(1); }";
        x = cast(b, text);
        x.begin(1024);
        x.go(99);
        b.due("TRAPPED", x.look(1), 4);
        frame(b, x, 0, 0, 1012, text.indexOf("(n + 1)"));
        frame(b, x, 2, 0, 1020, text.indexOf("(1)"));
        frame(b, x, 3, 1, 1024, -1);
        none(b, x, 4);
    }

    private static void frame(Bench b, WordFoundry x, int d, int function, int sp, int place) {
        b.due("function of FRAME " + d, x.frame(d, 0), function);
        b.due("SP of FRAME " + d, x.frame(d, 1), sp);
        b.due("place of FRAME " + d, x.frame(d, 2), place);
    }

    private static void none(Bench b, WordFoundry x, int d) {
        for (int what = 0; what < 3; what++) {
            b.due("no FRAME " + d, x.frame(d, what), -1);
        }
    }
}
