/** Terms 1, TOKENS, sentence by sentence: the last that is taken and the first that is refused. */
public final class TokenEdgesTest {
    private static final String WORDS = "int char unsigned void struct enum if else while do for switch case default break continue return sizeof";

    public static void main(String[] args) {
        Bench b = new Bench();
        bytes(b);
        notes(b);
        longest(b);
        names(b);
        manyNames(b);
        words(b);
        numbers(b);
        signs(b);
        strings(b);
        operators(b);
        stages(b);
        b.close();
    }

    private static boolean isByte(int c) {
        return c == 9 || c == 10 || c == 13 || c >= 32 && c <= 126;
    }

    private static void bytes(Bench b) {
        b.about("Bytes are 9, 10, 13, 32 to 126 (another one: 1 at it");
        for (int c = 0; c < 256; c++) {
            boolean odd = c == '#' || c == '$' || c == '@' || c == '`' || c == '\\' || c == '"' || c == '\'';
            int fault = Bench.cast(b.fresh(), "int main() { ; " + (char) c + " }");
            b.due("byte " + c + " is refused", (fault & 15) == 1, !isByte(c) || odd);
            if (!isByte(c) || odd) {
                b.due("place of byte " + c, fault >> 4, 15);
            }
        }
        b.about("in a NOTE, too");
        for (int c = 0; c < 256; c++) {
            int due = isByte(c) ? 0 : 16 * 3 + 1;
            b.due("byte " + c + " in a long NOTE", Bench.cast(b.fresh(), "/* " + (char) c + " */ int main() { }"), due);
            b.due("byte " + c + " in a short NOTE", Bench.cast(b.fresh(), "// " + (char) c + "\nint main() { }"), due);
        }
        b.about("ahead of a missing end");
        b.fault(1, "int main() { } /* a @\u0008");
        b.fault(1, "int main() { } /* a @\u0080\u0081 *");
        b.fault(1, "int main() { } @/* a \t");
        b.fault(1, "int main() { } /* @\u000b */ /* a");
        b.fault(1, "int main() { } /* a */ /* @\u000b");
    }

    private static void notes(Bench b) {
        b.about("BLANKS 9, 10, 13, 32 and NOTES may stand around tokens");
        for (String blank : new String[] {"\t", "\n", "\r", " ", "/**/", "//\n", " // a\n", "/* a */\t", "/***/", "/*\n*/", "\r\n"}) {
            b.ends(5, "int main() { return 7 - 2; }".replace(" ", blank));
            b.ends(5, blank + "int main ( ) { return 7 - 2 ; }".replace(" ", blank) + blank);
        }
        b.about("// up to ahead of the next 10 or the end");
        b.right("int main() { } // the end");
        b.right("int main() { } //");
        b.right("int main() { } // a\r } b /* c");
        b.fault(2, "int main() { } // a\n@} b");
        b.right("int main() { } // a // b \\\n");
        b.fault(2, "int main() { // } \n@");
        b.about("/* up to the next * /, without which: 1 at its first sign");
        b.right("int main() { } /**/");
        b.right("int main() { } /* /* // */");
        b.fault(2, "int main() { } /* a */ @*/");
        b.fault(1, "int main() { } @/*");
        b.fault(1, "int main() { } @/*/");
        b.right("int main() { } /*/*/");
        b.fault(1, "int main() { } @/* * /");
        b.fault(1, "int main() { } @/***");
        b.right("int main() { } /***/");
        b.fault(1, "int main() { } /* a */ @/* b *");
    }

    private static void longest(Bench b) {
        b.about("Each token is the longest that can begin there");
        b.rightIn("i+++i; i---i; i- -i; i+(-i); i<<i; i>>i; i<<=i; i>>=i; i<=i; i>=i; i==i; i!=i; i&&i; i||i; ps->a; i+=-i; i=-i; i=!i; i=~i; i&i; i|i; i^i;");
        String[] parted = {"i + @+ i", "i - @> a", "i < @< i", "i > @> i", "i << @= i", "i >> @= i", "i < @= i", "i > @= i", "i = @= i", "i | @| i", "i + @= i",
            "i - @= i", "i * @= i", "i / @= i", "i % @= i", "i & @= i", "i | @= i", "i ^ @= i", "i @! = i"};
        for (String text : parted) {
            b.faultIn(2, text + ";");
        }
        String[] joined = {"i--@i", "i++@i", "i++ @i", "i ++++ @i", "i &&@= i", "i ||@= i", "i <<=@= i", "i >>=@= i", "i ==@= i", "i !=@= i", "i <=@= i", "i >=@= i",
            "ps->@>a", "i ^@^ i", "i %@% i", "i <<@< i", "i >>@> i", "i -->>@> i"};
        for (String text : joined) {
            b.faultIn(2, text + ";");
        }
        b.ends(11, "int main() { int a = 5; int b = 6; return a+++b; }");
        b.ends(-1, "int main() { int a = 5; int b = 6; return a---b; }");
        b.ends(1, "int main() { int a = 5; return a-->4; }");
        b.faultIn(6, "i++@++;");
        b.faultIn(6, "i++@+++i;");
        b.rightIn("i-->>i; i-->=i; i++==i; i&&&i; i||!i;");
        b.fault(3, "int main() { @intx; }");
        b.fault(2, "int main() { return 0 @x1; }");
        b.ends(8, "int main() { int *p; int a = 64; p = &a; return a/ *p*8; }");
    }

    private static void names(Bench b) {
        b.about("NAMES: letters, digits and _, no digit first");
        b.right("int a, Z, _, __, a0, _9, zZ_09; int main() { }");
        b.ends(3, "int main() { int a = 1; int A = 2; return a + A; }");
        b.fault(1, "int @0a; int main() { }");
        b.fault(1, "int @9_; int main() { }");
        b.fault(1, "int a@$; int main() { }");
        b.fault(1, "int a@\u00e9; int main() { }");
        b.about("at most 24 signs (more: 1 at the first one)");
        String most = "abcdefghijklmnopqrstuvw_";
        b.due("signs", most.length(), 24);
        for (String form : new String[] {"int %; int main() { }", "void %() { } int main() { }", "struct % { int a; }; int main() { }", "struct A { int %; }; int main() { }",
            "enum { % }; int main() { }", "int main() { int %; }", "int f(int %); int main() { }"}) {
            b.right(form.replace("%", most));
            b.fault(1, form.replace("%", "@" + most + "x"));
            b.fault(1, form.replace("%", "@" + most + "9"));
        }
        b.fault(1, "int main() { @" + "x".repeat(4000) + "; }");
        b.ends(3, "int main() { int " + most + " = 1; int " + most.substring(0, 23) + "x = 2; return " + most + " + " + most.substring(0, 23) + "x; }");
    }

    /** Texts that consist of as many different names, and as many signs of names, as they can hold. */
    private static void manyNames(Bench b) {
        b.about("a text may be full of names");
        String signs = "abcdefghijklmnopqrstuvwxyzABCDEFGHIJKLMNOPQRSTUVWXYZ_";
        String ahead = "int main(){int zz0;";
        StringBuilder few = new StringBuilder(ahead);
        for (int k = 0; few.length() < 4090; k++) {
            String name = signs.substring(k / 53, k / 53 + 1) + signs.charAt(k % 53);
            few.append(WORDS.contains(name) ? "" : name).append(';');
        }
        b.due("the first of them isn't known", Bench.cast(b.fresh(), few + "}"), 16 * ahead.length() + 3);
        StringBuilder wide = new StringBuilder(ahead);
        for (int k = 0; wide.length() < 4070; k++) {
            wide.append("abcdefghijklmnopqrstuv").append(signs.charAt(k / 53 % 53)).append(signs.charAt(k % 53)).append(';');
        }
        b.due("nor is the first long one", Bench.cast(b.fresh(), wide + "}"), 16 * ahead.length() + 3);
        StringBuilder told = new StringBuilder("char ");
        for (int k = 0; k < 499; k++) {
            told.append(k == 0 ? "" : ",").append("q").append(signs.charAt(k / 53)).append(signs.charAt(k % 53));
        }
        String end = ";int main(){qaa=1;qab=2;qjv=3;return qaa+qab*10+qjv*100;}";
        WordFoundry x = b.fresh();
        b.due("499 names that are told", Bench.cast(x, told + end), 0);
        x.begin(1024);
        x.go(1);
        b.due("each is one of its own", x.look(2), 321);
    }

    private static void words(Bench b) {
        b.about("WORDS, which are no names");
        for (String word : WORDS.split(" ")) {
            b.fault(2, "int @" + word + "; int main() { }");
            b.fault(2, "struct A { int @" + word + "; }; int main() { }");
            b.right("int " + word + "_, " + word.toUpperCase() + ", " + word.substring(0, word.length() - 1) + "9, _" + word + "; int main() { }");
        }
        b.right("int main() { int get, put, halt, main; }");
    }

    private static void numbers(Bench b) {
        b.about("NUMBERS: 0, or digits of which the first one isn't 0");
        b.ends(0, "int main() { return 0; }");
        b.ends(9, "int main() { return 9; }");
        b.ends(10, "int main() { return 10; }");
        b.fault(1, "int main() { return @00; }");
        b.fault(1, "int main() { return @01; }");
        b.fault(1, "int main() { return @09; }");
        b.about("0x and 1 to 8 digits 0 to 9, a to f, A to F");
        for (int k = 1; k <= 8; k++) {
            b.ends(1, "int main() { return 0x" + "0".repeat(k - 1) + "1; }");
        }
        b.fault(1, "int main() { return @0x; }");
        b.fault(1, "int main() { return @0x000000001; }");
        b.fault(1, "int main() { return @0x 1; }");
        b.ends(0x09afAF, "int main() { return 0x09afAF; }");
        for (char wrong : new char[] {'g', 'G', 'x', '_', 'z'}) {
            b.fault(1, "int main() { return @0x1" + wrong + "; }");
        }
        b.fault(2, "int main() { return 0x1/@; }");
        b.fault(1, "int main() { return @0X1; }");
        b.about("at most 4294967295 (more, or a letter, digit or _ at once behind: 1 at the first sign)");
        b.ends(-1, "int main() { return 4294967295; }");
        b.fault(1, "int main() { return @4294967296; }");
        b.fault(1, "int main() { return @42949672950; }");
        b.fault(1, "int main() { return @18446744073709551616; }");
        b.fault(1, "int main() { return @18446744073709551617; }");
        b.fault(1, "int main() { return @" + "9".repeat(300) + "; }");
        b.ends(-1, "int main() { return 0xffffffff; }");
        for (String wrong : new String[] {"1a", "1_", "0_", "0a", "1f", "10x", "7e1", "0xfg", "4294967295u"}) {
            b.fault(1, "int main() { return @" + wrong + "; }");
        }
        b.about("Above 2147483647 they are unsigned, else int");
        b.ends(1, "int main() { return -1 < 2147483647; }");
        b.ends(0, "int main() { return -1 < 2147483648; }");
        b.ends(1, "int main() { return -1 < 0x7fffffff; }");
        b.ends(0, "int main() { return -1 < 0x80000000; }");
        b.ends(1, "int main() { return -2147483648 > 0; }");
        b.ends(1, "int main() { return -2147483647 < 0; }");
    }

    private static boolean isEscape(int c) {
        return "ntr0\\'\"".indexOf(c) >= 0;
    }

    private static void signs(Bench b) {
        b.about("a sign in ' ': one of 32 to 126 but ' and \\ (else 1 at the first ')");
        for (int c = 0; c < 256; c++) {
            if (c >= 32 && c <= 126 && c != '\'' && c != '\\') {
                b.ends(c, "int main() { return '" + (char) c + "'; }");
            } else {
                b.fault(1, "int main() { return @'" + (char) c + "'; }");
            }
        }
        b.about("or an ESCAPE: \\ and n (10), t (9), r (13), 0 (0), \\, ' or \"");
        String escapes = "ntr0\\'\"";
        int[] values = {10, 9, 13, 0, 92, 39, 34};
        for (int k = 0; k < values.length; k++) {
            b.ends(values[k], "int main() { return '\\" + escapes.charAt(k) + "'; }");
        }
        for (int c = 0; c < 256; c++) {
            if (!isEscape(c)) {
                b.fault(1, "int main() { return @'\\" + (char) c + "'; }");
            }
        }
        for (String wrong : new String[] {"''", "'ab'", "'a", "'", "'\\", "'\\n", "'\\'", "'\\01'", "' a'"}) {
            b.fault(1, "int main() { return @" + wrong);
        }
        b.about("Like numbers (int)");
        b.ends(1, "int main() { return sizeof 'a' == 4 && -1 < '~'; }");
        b.right("char a['a']; enum { A = 'a' }; int *p = '\\0'; int main() { switch (1) { case 'a': ; } }");
        b.fault(2, "int main() { return 'a'@'b'; }");
        b.fault(2, "int main() { return 'a'@b; }");
        b.fault(2, "int main() { return 'a'@1; }");
    }

    private static void strings(Bench b) {
        b.about("STRINGS: up to 200 signs (an ESCAPE is one) in \" \" (else 1 at the first \")");
        for (int many : new int[] {0, 1, 199, 200}) {
            b.ends(many + 1, "int main() { return sizeof \"" + "x".repeat(many) + "\"; }");
            b.ends(many + 1, "int main() { return sizeof \"" + "\\n".repeat(many) + "\"; }");
            b.ends(many + 1, "char a[] = \"" + "\\\\".repeat(many) + "\"; int main() { return sizeof a; }");
        }
        b.fault(1, "int main() { return sizeof @\"" + "x".repeat(201) + "\"; }");
        b.fault(1, "int main() { return sizeof @\"" + "\\n".repeat(201) + "\"; }");
        b.fault(1, "int main() { return sizeof @\"" + "x".repeat(200) + "\\0\"; }");
        b.about("32 to 126 but \" and \\, or ESCAPES; else 1 at the first \"");
        for (int c = 0; c < 256; c++) {
            if (c >= 32 && c <= 126 && c != '"' && c != '\\') {
                b.ends(c, "int main() { return \"a" + (char) c + "b\"[1]; }");
            } else if (c != '"') {
                b.fault(1, "int main() { return @\"a" + (char) c + "b\"[1]; }");
            }
            if (!isEscape(c)) {
                b.fault(1, "int main() { return @\"a\\" + (char) c + "b\"[1]; }");
            }
        }
        b.about("an ESCAPE is one sign, of its own value");
        int[] bytes = {10, 'a', 9, 'b', 13, 'c', 0, 'd', 92, 'e', 39, 'f', 34, 'n', 0};
        String signs = "\"\\na\\tb\\rc\\0d\\\\e\\'f\\\"n\"";
        WordFoundry x = b.fresh();
        b.due(signs, Bench.cast(x, "char a[] = " + signs + "; char *p = " + signs + "; int main() { }"), 0);
        b.due("how many", x.thing(0, 2), bytes.length);
        x.begin(1024);
        for (int k = 0; k < bytes.length; k++) {
            b.due("in an array " + k, x.peek(64 + k), bytes[k]);
            b.due("behind the variables " + k, x.peek(64 + 16 + 4 + k), bytes[k]);
        }
        b.fault(2, "int main() { return \"a\"@b; }");
        for (String wrong : new String[] {"\"", "\"a", "\"a\\", "\"a\\\"", "\"a\nb\"", "\"a\u0001"}) {
            b.fault(1, "int main() { return *@" + wrong);
        }
        b.ends('*', "int main() { return \"/* */ //\"[1]; }");
    }

    private static void operators(Bench b) {
        b.about("OPERATORS .. (Anything else: 1 at it.)");
        b.rightIn("{ ; } i = (arr[0] + s.a - ps->a) * i / 1 % 2; i++; i--; ~i; !i; &i; i & i | i ^ i; i << i >> i; i < i; i > i; i <= i; i >= i; i == i; i != i; i && i || i; "
            + "i ? i : i, i; i += i; i -= i; i *= i; i /= 1; i %= 1; i &= i; i |= i; i ^= i; i <<= i; i >>= i;");
        for (String wrong : new String[] {"#", "$", "`", "\\", "\u007f", "?#"}) {
            int at = wrong.length() - 1;
            b.due("sign " + wrong, Bench.cast(b.fresh(), "int a; " + wrong), 16 * (7 + at) + 1);
        }
        b.due("sign @", Bench.cast(b.fresh(), "int a; @"), 16 * 7 + 1);
    }

    private static void stages(Bench b) {
        b.about("First all TOKENS are taken (1), then the FORM is gone through (2, 12), then the MEANING, then the END (11, 12)");
        b.fault(1, "int ; x() { y; } @#");
        b.fault(2, "int x; int x; int f() { y = z; g(); } int @;");
        b.fault(12, "int x; int x; int f() { " + "(".repeat(24) + "@(y" + ")".repeat(25) + "; }");
        b.fault(4, "int g(); int x; int @x; int f() { g(); }");
        b.fault(3, "int g(); int f() { g(); @x; }");
        b.fault(11, "int g(); int f() { @g(); }");
        b.about("each from the beginning on and up to its first fault");
        b.fault(1, "int a; @# $ 00");
        b.fault(2, "int a @b; int c d;");
        b.fault(3, "int main() { @a; b; }");
        b.fault(3, "int main() { @a; } int x; int x;");
        b.fault(11, "int f(); int g(); int main() { @g(); f(); }");
    }
}
