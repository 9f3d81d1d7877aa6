/** Promise 3, Terms 1: TOKENS and fault 1. */
public final class TokensTest {
    public static void main(String[] args) {
        Bench b = new Bench();
        bytes(b);
        notes(b);
        names(b);
        numbers(b);
        signs(b);
        strings(b);
        operators(b);
        order(b);
        b.close();
    }

    private static void bytes(Bench b) {
        b.right("int\tmain(\n)\r{ }\n");
        b.fault(1, "int main() { @\u0000 }");
        b.fault(1, "int main() { @\u007f }");
        b.fault(1, "int main() { @\u00e4 }");
        b.fault(1, "int main() { @\u000b }");
        for (String odd : new String[] {"@", "#", "$", "`", "\\"}) {
            b.due("odd " + odd, Bench.cast(b.fresh(), "int x; " + odd), 16 * 7 + 1);
        }
    }

    private static void notes(Bench b) {
        b.right("// \"not closed\nint main() { } // at the end");
        b.right("/* \t\r\n ~ */ // \t ~ \r\nint main() { }");
        b.fault(1, "int main() { } /* @\u007f */");
        b.fault(1, "int main() { } // @\u001f");
        b.right("/* * / ** ' \n */int/**/main(/*/ */) { }//");
        b.right("int main() { int a = 8; int *p = &a; return a / *p; }");
        b.fault(1, "int main() { } @/* not closed *");
        b.fault(1, "int main() { } @/*/");
        b.fault(1, "int main() { } @/*");
        b.fault(1, "int main() { } /* a @\u0001 b */");
        b.fault(1, "int main() { } /* a @\u0001 b");
        b.fault(1, "int main() { } // a @\u00ff b");
        b.fault(2, "int main() { } // a \n@}");
        b.fault(2, "int main() { } /* a */ @/ 2");
    }

    private static void names(Bench b) {
        b.right("int a23456789012345678901234; int _; int _9Az; int main() { }");
        b.fault(1, "int @a234567890123456789012345; int main() { }");
        b.right("int inta; int sizeofx; int If; int main() { }");
        for (String word : ("int char unsigned void struct enum if else while do for switch case default break continue "
            + "return sizeof").split(" ")) {
            b.fault(2, "int a, @" + word + "; int main() { }");
        }
        b.right("int get2, puts, halt_; int main() { int get; int put; int halt; int main; }");
    }

    private static void numbers(Bench b) {
        b.ends(0, "int main() { return 0; }");
        b.ends(255, "int main() { return 0xfF; }");
        b.ends(-1, "int main() { return 4294967295; }");
        b.ends(-1, "int main() { return 0xFFFFFFFF; }");
        b.ends(1, "int main() { return 0x00000001; }");
        b.ends(1, "int main() { return 2147483648 > 0; }");
        b.ends(0, "int main() { return 0x7fffffff + 1 > 0; }");
        b.ends(1, "int main() { return 0x80000000 / 2 == 0x40000000; }");
        for (String wrong : new String[] {"4294967296", "99999999999999999999999999", "00", "01", "0x", "0x123456789",
            "0X1", "0xg", "12a", "0b1", "1_", "0_", "0xfg", "1e5", "0x1_"}) {
            b.fault(1, "int main() { return @" + wrong + "; }");
        }
        b.fault(2, "int main() { return 1.@5; }");
    }

    private static void signs(Bench b) {
        b.ends('a', "int main() { return 'a'; }");
        b.ends('"', "int main() { return '\"'; }");
        b.ends(' ', "int main() { return ' '; }");
        b.ends('~', "int main() { return '~'; }");
        int[] values = {10, 9, 13, 0, 92, 39, 34};
        for (int i = 0; i < values.length; i++) {
            b.ends(values[i], "int main() { return '\\" + "ntr0\\'\"".charAt(i) + "'; }");
        }
        b.ends(4, "int main() { return sizeof 'a'; }");
        for (String wrong : new String[] {"''", "'ab'", "'a", "'\\a'", "'\\'", "'\n'", "'\t'", "'\u0080'", "'", "'\\", "'\\n", "'\\00'"}) {
            b.fault(1, "int main() { return @" + wrong);
        }
        b.fault(1, "int main() { return @'''; }");
    }

    private static void strings(Bench b) {
        b.ends(7, "int main() { return sizeof \"a\\n\\\\'\\\"\\0\"; }");
        b.ends(1, "int main() { return sizeof \"\"; }");
        String many = "x".repeat(200);
        b.ends(201, "int main() { return sizeof \"" + many + "\"; }");
        b.ends(201, "int main() { return sizeof \"" + many.substring(1) + "\\n\"; }");
        b.fault(1, "int main() { return sizeof @\"" + many + "y\"; }");
        for (String wrong : new String[] {"\"", "\"abc", "\"a\nb\"", "\"a\tb\"", "\"\\x\"", "\"a\u0090\"", "\"\\"}) {
            b.fault(1, "int main() { put(*@" + wrong);
        }
        b.right("int main() { put(*\"// /* '\"); }");
    }

    private static void operators(Bench b) {
        b.ends(3, "int main() { int a = 1; int b = 2; return a+++b; }");
        b.fault(2, "int main() { int a; return a ++ @a; }");
        b.ends(1, "int main() { int a = 3; a<<=2; a>>=1; a-=1; a*=3; a/=2; a%=4; a&=7; a|=8; a^=2; return a == 10 - 5 + 1 - 1 - 0 + 0 || a; }");
        b.ends(5, "int main() { int a = 5; return a-- > 0 ? a + 1 : 0; }");
        b.fault(2, "int main() { int a = 1; a == @= 2; }");
        b.fault(2, "int main() { int a = 1; a >> @>= 2; }");
        b.fault(2, "int main() { int a = 1; a >>=@= 2; }");
        b.fault(2, "int main() { int a = 1; a &&@= 2; }");
        b.ends(2, "int main() { return 1<2&&2>1!=0?2:3; }");
    }

    /** All tokens are taken ahead of the FORM. */
    private static void order(Bench b) {
        b.fault(1, "int int int @# 3");
        b.fault(1, "x y z; @00");
        b.fault(1, "@\u0001\u0002");
        b.due("empty", Bench.cast(b.fresh(), ""), 11);
        b.due("blanks", Bench.cast(b.fresh(), " \n "), 16 * 3 + 11);
    }
}
