/** Terms 2, FORM and its LIMITS, sentence by sentence: the last that is taken and the first that is refused. */
public final class FormEdgesTest {
    // Tokens stand apart by blanks; a $ stands behind each whole DECL. None of them has an if.
    private static final String[] TEXTS = {
        "struct A { int a , * b [ 2 ] [ 3 ] ; char c ; struct A * * d ; } ; $ enum { X } ; $ enum { Y = 1 , Z , W = ( 2 ) } ; $ int main ( ) { } $",
        "int a , * b , c [ 2 ] = { 1 , 2 } , d = - 1 , e [ ] [ 2 ] = { { 1 } , { 2 , 3 } } ; $ struct B * p ; $ int main ( void ) { ; } $",
        "void f ( ) ; $ int * g ( int a , char * * b , unsigned c [ ] [ 3 ] , struct A * d ) ; $ void h ( void * a ) { return ; } $ int main ( ) { f ( ) ; } $",
        "int main ( ) { int a , b = 2 ; { { } ; } while ( a ) { break ; } do continue ; while ( a , b ) ; for ( ; ; ) ; for ( int k = 0 , l ; k < 2 ; k ++ , l -- ) ; for ( a = 1 ; ; ) break ; } $",
        "int main ( ) { switch ( 1 ) { case 1 ? 2 : 3 : default : ; int a ; case 4 : a ; } return 1 , 2 ; } $",
        "int main ( ) { a = b += c ? d , e : f ? g : h = i ; - ~ ! & * ++ -- x ; ( int ) y ; ( struct A * * ) - y ; sizeof ( int * ) ; sizeof x ++ ; sizeof ( x ) [ 1 ] ; } $",
        "int main ( ) { f ( ) ; f ( a = 1 , ( b , c ) ) . x -> y [ z , 1 ] ++ -- ; ( \"s\" ) [ 'c' ] ; 1 || 2 && 3 | 4 ^ 5 & 6 == 7 != 8 < 9 > 1 <= 2 >= 3 << 4 >> 5 + 6 - 7 * 8 / 9 % 1 ; } $"};

    public static void main(String[] args) {
        Bench b = new Bench();
        cuts(b);
        strangers(b);
        least(b);
        nested(b);
        mixed(b);
        notNested(b);
        statements(b);
        rows(b);
        heights(b);
        heightsInTime(b);
        b.close();
    }

    private static void cuts(Bench b) {
        b.about("At the first token with which none can go on (behind the last one: at the text's length): 2");
        for (String text : TEXTS) {
            StringBuilder ahead = new StringBuilder();
            for (String token : text.split(" ")) {
                if (!token.equals("$")) {
                    cut(b, ahead.toString(), text);
                    ahead.append(token).append(' ');
                }
            }
        }
    }

    /** What is cut off behind a token is a 2 at its length, unless DECLS are whole there. */
    private static void cut(Bench b, String part, String text) {
        int at = 0;
        boolean whole = part.isEmpty();
        for (String decl : text.split("\\$ ?")) {
            at += decl.length();
            whole = whole || part.length() == at;
        }
        int fault = Bench.cast(b.fresh(), part);
        b.due("a 2 behind: " + part, (fault & 15) == 2, !whole);
        if (!whole) {
            b.due("at its length: " + part, fault >> 4, part.length());
            b.due("at its length, with a NOTE: " + part, Bench.cast(b.fresh(), part + "  // a"), 16 * (part.length() + 6) + 2);
        }
    }

    /** An else can't stand anywhere in these texts. */
    private static void strangers(Bench b) {
        b.about("At the first token with which none can go on: 2");
        for (String text : TEXTS) {
            String plain = text.replace("$ ", "").replace("$", "");
            for (int at = 0; at >= 0 && at < plain.length(); at = plain.indexOf(' ', at) + 1) {
                b.fault(2, plain.substring(0, at) + "@else " + plain.substring(at));
            }
        }
    }

    private static void least(Bench b) {
        b.about("{ } here for none or more, [ ] for perhaps");
        b.due("no DECL at all", Bench.cast(b.fresh(), ""), 11);
        b.fault(2, "struct A { @};");
        b.fault(2, "enum { @};");
        b.fault(2, "enum { A, @};");
        b.fault(2, "int @;");
        b.fault(2, "int a, @;");
        b.fault(2, "int a = { @};");
        b.fault(2, "int a = { 1, @};");
        b.fault(2, "int f(int a, @);");
        b.fault(2, "int main() { f(1, @); }");
        b.fault(2, "int main() { if (@) ; }");
        b.fault(2, "int main() { while (@) ; }");
        b.fault(2, "int main() { do ; while (@); }");
        b.fault(2, "int main() { switch (@) { } }");
        b.fault(2, "int main() { a[@]; }");
        b.fault(2, "int main() { (@); }");
        b.fault(2, "int main() { for (@) ; }");
        b.fault(2, "int main() { for (;@) ; }");
        b.right("int main() { for (;;) ; }");
        b.right("int main() { switch (1) { } {} ; }");
        b.about("PARAMS: void (a ) behind it), or PARAM { , PARAM }");
        b.right("int f(void); int g(void *a); int h(); int main(void) { }");
        b.fault(2, "int f(void@, int a);");
        b.fault(2, "int f(int a, void@);");
        b.fault(2, "int f(void *@);");
        b.fault(9, "int f(void @a);");
        b.about("A ( with a TYPE's first word behind it begins a CAST");
        for (String type : new String[] {"int", "char", "unsigned", "void", "struct A"}) {
            b.fault(2, "int main() { (" + type + "@ + 1); }".replace("@ + 1", " @+ 1"));
            b.fault(2, "int main() { (" + type + ") @; }");
            b.fault(2, "int main() { sizeof (" + type + ") @x; }");
        }
        b.fault(2, "int main() { (@enum) 1; }");
        b.fault(2, "int main() { f(@int); }");
        b.fault(2, "int main() { a[@int]; }");
    }

    // What nests in expressions: what is ahead of the part within, what is behind it, and how far its place lies behind its beginning.
    private static final String[][] KINDS = {{"(", ")", "0"}, {"f(", ")", "1"}, {"f(1, ", ")", "1"}, {"p[", "]", "1"}, {"- ", "", "0"}, {"~", "", "0"}, {"!", "", "0"},
        {"& ", "", "0"}, {"*", "", "0"}, {"++ ", "", "0"}, {"-- ", "", "0"}, {"(int) ", "", "0"}, {"(struct A **) ", "", "0"}, {"sizeof ", "", "0"}, {"i = ", "", "2"},
        {"i += ", "", "2"}, {"i -= ", "", "2"}, {"i *= ", "", "2"}, {"i /= ", "", "2"}, {"i %= ", "", "2"}, {"i &= ", "", "2"}, {"i |= ", "", "2"}, {"i ^= ", "", "2"},
        {"i <<= ", "", "2"}, {"i >>= ", "", "2"}, {"i ? ", " : i", "2"}, {"i ? i : ", "", "2"}};

    private static String wrapped(String[] kind, int times, String middle) {
        return kind[0].repeat(times) + middle + kind[1].repeat(times);
    }

    /** Whether one kind can stand within another without brackets, and stay what it is. */
    private static boolean canHold(String[] first, String[] second) {
        if (first[0].equals("sizeof ") && second[0].startsWith("(") && second[0].length() > 1) {
            return false;
        }
        boolean closed = second[1].equals(")") || second[1].equals("]");
        return first[0].equals("i ? i : ") ? !isAssignment(second) : !isUnary(first) || isUnary(second) || closed;
    }

    private static boolean isAssignment(String[] kind) {
        return kind[0].startsWith("i ") && kind[0].endsWith("= ");
    }

    private static boolean isUnary(String[] kind) {
        return kind[1].isEmpty() && kind[2].equals("0");
    }

    /** Its FORM is right, whatever it means. */
    private static void formed(Bench b, String text) {
        int number = Bench.cast(b.fresh(), text) & 15;
        b.due("FORM of " + text, number == 2 || number == 12 || number == 1, false);
    }

    private static void nested(Bench b) {
        b.about("at most 24 stand within one another (the 25th: 12 at it)");
        for (String[] kind : KINDS) {
            int into = Integer.parseInt(kind[2]);
            String marked = kind[0].substring(0, into) + "@" + kind[0].substring(into);
            formed(b, "int main() { " + wrapped(kind, 24, "i") + "; }");
            b.fault(12, "int main() { " + kind[0].repeat(24) + marked + "i" + kind[1].repeat(25) + "; }");
            // It counts ahead of what is wrong behind it.
            b.fault(12, "int main() { " + kind[0].repeat(24) + marked + ")");
        }
        b.about("{ of an INIT");
        b.fault(5, "int a = @" + "{".repeat(24) + "1" + "}".repeat(24) + ";");
        b.fault(12, "int a = " + "{".repeat(24) + "@{1" + "}".repeat(25) + ";");
        b.fault(12, "int main() { int a = " + "{".repeat(24) + "@{1" + "}".repeat(25) + "; }");
        b.about("a CAST's and sizeof's ( of a TYPE is none of its own, a CAST and sizeof are");
        formed(b, "int main() { " + "(".repeat(23) + "sizeof (int)" + ")".repeat(23) + "; }");
        b.fault(12, "int main() { " + "(".repeat(24) + "@sizeof (int)" + ")".repeat(24) + "; }");
        formed(b, "int main() { " + "(".repeat(23) + "(int) i" + ")".repeat(23) + "; }");
        b.fault(12, "int main() { " + "(".repeat(24) + "@(int) i" + ")".repeat(24) + "; }");
        b.about("parts behind ? and : (at these)");
        formed(b, "int main() { " + "(".repeat(23) + "i ? i : i" + ")".repeat(23) + "; }");
        b.fault(12, "int main() { " + "(".repeat(24) + "i @? i : i" + ")".repeat(24) + "; }");
        formed(b, "int main() { " + "(".repeat(22) + "i ? -i : -i" + ")".repeat(22) + "; }");
        b.fault(12, "int main() { " + "(".repeat(23) + "i ? @-i : i" + ")".repeat(23) + "; }");
        b.fault(12, "int main() { " + "(".repeat(23) + "i ? i : @-i" + ")".repeat(23) + "; }");
        b.fault(12, "int main() { " + "(".repeat(24) + "@-i ? i : i" + ")".repeat(24) + "; }");
        formed(b, "int main() { " + "(".repeat(23) + "-i ? i : i" + ")".repeat(23) + "; }");
        b.about("right sides of assignments (at their operator)");
        formed(b, "int main() { " + "(".repeat(23) + "-i = i" + ")".repeat(23) + "; }");
        b.fault(12, "int main() { " + "(".repeat(23) + "i = @-i" + ")".repeat(23) + "; }");
    }

    /** Kinds are counted together: one of each pair twelve times, then a third one. */
    private static void mixed(Bench b) {
        b.about("at most 24 stand within one another: of all kinds together");
        for (String[] first : KINDS) {
            for (String[] second : KINDS) {
                if (!canHold(first, second)) {
                    continue;
                }
                String ahead = "int main() { " + first[0].repeat(12) + second[0].repeat(12);
                String behind = second[1].repeat(12) + first[1].repeat(12) + "; }";
                formed(b, ahead + "i" + behind);
                b.fault(12, ahead + "@(i)" + behind);
                b.fault(12, ahead + "f@(i)" + behind);
                b.fault(12, ahead + "i@[0]" + behind);
                b.fault(12, ahead + "@-i" + behind);
            }
        }
        b.fault(12, "int a = " + "{".repeat(12) + "(".repeat(12) + "@(1" + ")".repeat(13) + "}".repeat(12) + ";");
        formed(b, "int a = " + "{".repeat(12) + "(".repeat(12) + "1" + ")".repeat(12) + "}".repeat(12) + ";");
    }

    private static void notNested(Bench b) {
        String full = "(".repeat(24) + "1" + ")".repeat(24);
        b.about("not those of DIMS, if, while, for, switch");
        b.right("int a[" + full + "][" + full + "]; int f(int b[" + full + "]); struct A { int c[" + full + "]; }; int main() { int d[" + full + "]; }");
        b.right("int main() { if (" + full + ") ; while (" + full + ") break; do ; while (0 && " + full + "); for (" + full + "; " + full + "; " + full + ") break; }");
        b.right("int main() { switch (" + full + ") { case " + full + ": ; } return " + full + "; }");
        b.right("enum { A = " + full + " }; int a = " + full + "; int main() { int b = " + full + "; }");
        for (String ahead : new String[] {"if (", "while (", "for (", "for (;", "for (;;", "switch (", "do ; while (", "return ", "int x[", "int x = ", "switch (1) { case "}) {
            b.fault(12, "int main() { " + ahead + "(".repeat(24) + "@(1");
        }
        b.fault(12, "int a[" + "(".repeat(24) + "@(1");
        b.fault(12, "enum { A = " + "(".repeat(24) + "@(1");
        b.about("one behind the other they don't stand within one another");
        b.rightIn("m" + "[0]".repeat(2) + " + " + "(arr[0]) + (arr[1]) + ".repeat(25) + "-i;");
        formed(b, "int main() { p" + "[0]".repeat(60) + "; p" + ".a".repeat(60) + "; p" + "++".repeat(60) + "; f(" + "(1), ".repeat(40) + "1); }");
        formed(b, "int main() { i" + ", i = 1".repeat(40) + "; i" + ", (i ? 1 : 2)".repeat(40) + "; }");
        formed(b, "int a = {" + "{1}, ".repeat(40) + "{2}};");
        b.about("postfix ++ and --, . and ->, and what stands between two parts aren't counted");
        formed(b, "int main() { " + "(".repeat(24) + "i++ + i-- * i.a - i->b, i" + ")".repeat(24) + "; }");
    }

    // S's that have another one within: what is ahead of it and what is behind it.
    private static final String[][] AROUND = {{"{ ", " }"}, {"if (1) ", ""}, {"if (1) ; else ", ""}, {"while (1) ", ""}, {"do ", " while (1);"}, {"for (;;) ", ""},
        {"switch (1) { ", " }"}, {"for (int k; ; ) ", ""}};
    private static final String[] BEGINNINGS = {";", "{", "if", "while", "do", "for", "switch", "break", "continue", "return", "x", "1", "'a'", "\"a\"", "(", "-", "~", "!", "&",
        "*", "++", "--", "sizeof"};
    private static final String[] OTHERS = {")", "]", "[", ",", ":", "?", ".", "->", "+", "/", "=", "+=", "==", "else", "enum"};

    private static void statements(Bench b) {
        b.about("S's within one another likewise; a function's BLOCK is one");
        b.right("int main() " + "{".repeat(24) + "}".repeat(24));
        b.fault(12, "int main() " + "{".repeat(24) + "@{" + "}".repeat(25));
        for (String[] outer : AROUND) {
            for (String[] inner : AROUND) {
                String ahead = "int main() { " + outer[0].repeat(11) + inner[0].repeat(11);
                String behind = inner[1].repeat(11) + outer[1].repeat(11) + " }";
                formed(b, ahead + ";" + behind);
                formed(b, ahead + "{ int a; }" + behind);
                // The S behind an else is as deep as the one ahead of it.
                b.fault(12, ahead + inner[0].replace("; else ", "") + "@;" + inner[1] + behind);
                b.fault(12, ahead + outer[0].replace("; else ", "") + "@;" + outer[1] + behind);
                b.fault(12, ahead + "{ @; }" + behind);
            }
        }
        b.about("12 at the token that stands where the 25th would begin, also one with which none begins");
        for (String[] kind : AROUND) {
            String ahead = "int main() { " + kind[0].replace("; else ", "").repeat(23) + "@";
            for (String token : BEGINNINGS) {
                b.fault(12, ahead + token);
            }
            for (String token : OTHERS) {
                b.fault(12, ahead + token);
            }
            b.fault(12, ahead.replace("@", " // a note\n @") + "x");
        }
        b.about("one behind the other they don't stand within one another");
        b.right("int main() { " + "{ } ; if (1) ; else ; ".repeat(40) + "}");
    }

    private static void rows(Bench b) {
        b.about("in a row of a BLOCK or switch } and a LOCAL aren't such, nor in that of a switch case and default");
        String[] block = AROUND[0];
        String[] choice = AROUND[6];
        for (String[] kind : new String[][] {block, choice}) {
            String ahead = "int main() { " + kind[0].repeat(23);
            String behind = kind[1].repeat(23) + " }";
            b.right(ahead + behind);
            for (String type : new String[] {"int", "char", "unsigned", "void *", "struct A *"}) {
                b.right(ahead + type + " a; " + type + " b, *c;" + behind);
            }
            b.fault(2, ahead + "int @;" + behind);
            b.fault(2, ahead + "struct A @{");
            b.fault(12, ahead + "int a; @a = 1;" + behind);
        }
        String ahead = "int main() { " + choice[0].repeat(23);
        b.right(ahead + "case 1: case 2: default: int a; case 3:" + choice[1].repeat(23) + " }");
        b.fault(12, ahead + "case 1: @;");
        b.fault(12, ahead + "default: @{");
        b.fault(2, ahead + "case @:");
        b.fault(12, "int main() { " + block[0].repeat(23) + "@case 1:");
        b.fault(12, "int main() { " + block[0].repeat(23) + "@default:");
        for (int k = 1; k <= 5; k++) {
            // Not in a row, they are such.
            for (String token : new String[] {"}", "int", "char", "unsigned", "void", "struct", "case", "default"}) {
                b.fault(12, "int main() { " + AROUND[k][0].replace("; else ", "").repeat(23) + "@" + token);
                b.fault(2, "int main() { " + AROUND[k][0].repeat(22) + "@" + token);
            }
        }
        b.fault(12, "int main() { " + "if (1) ; else ".repeat(22) + "if (1) @; else ; }");
        b.right("int main() { " + "if (1) ; else ".repeat(22) + "; }");
        b.about("at the text's end no token stands there");
        b.fault(2, "int main() " + "{".repeat(24) + "@");
        b.fault(2, "int main() { " + "if (1)".repeat(23) + "@");
    }

    /** An E of a HEIGHT. */
    private static String high(int height) {
        return "i" + " + i".repeat(height);
    }

    private static final String[] AROUND_E = {"@-(%)", "@~(%)", "@!(%)", "@&(%)", "@*(%)", "@++(%)", "@--(%)", "@(int) (%)", "@(struct A *) (%)", "@sizeof (%)", "(%)@++", "(%)@--",
        "(%)@.a", "(%)@->a", "(%)@[0]", "arr@[%]", "f@(%)", "f@(1, %)", "f@(%, 1)", "f@(1, %, 1)", "(%) @? 1 : 2", "i @? % : 2", "i @? 1 : %", "i @? 1 : (%)", "i@, %", "%@, i",
        "i @= %", "% @= i"};
    private static final String[] BETWEEN = {"||", "&&", "|", "^", "&", "==", "!=", "<", ">", "<=", ">=", "<<", ">>", "+", "-", "*", "/", "%"};
    private static final String[] ASSIGNMENTS = {"=", "+=", "-=", "*=", "/=", "%=", "&=", "|=", "^=", "<<=", ">>="};

    private static void around(Bench b, String marked) {
        formed(b, "int main() { " + marked.replace("@", "").replace("%", high(59)) + "; }");
        b.fault(12, "int main() { " + marked.replace("%", high(60)) + "; }");
        b.fault(12, "int main() { return " + marked.replace("%", high(60)) + "; }");
    }

    private static void heights(Bench b) {
        b.about("of all else in an E one more than the greatest one of its parts; above 60: 12 AT it");
        formed(b, "int main() { " + high(60) + "; }");
        b.fault(12, "int main() { " + high(60) + " @+ i; }");
        for (String marked : AROUND_E) {
            around(b, marked);
        }
        for (String op : BETWEEN) {
            String text = op.equals("%") ? "REST" : op;
            for (String marked : new String[] {"(%) @" + text + " i", "i @" + text + " (%)", "(%) @" + text + " (i)"}) {
                formed(b, "int main() { " + marked.replace("@", "").replace("(%)", "(" + high(59) + ")").replace("REST", "%") + "; }");
                b.fault(12, "int main() { " + marked.replace("(%)", "(" + high(60) + ")").replace("REST", "%") + "; }");
            }
        }
        for (String op : ASSIGNMENTS) {
            String text = op.equals("%=") ? "REST=" : op;
            formed(b, "int main() { " + ("i " + text + " " + high(59)).replace("REST", "%") + "; }");
            b.fault(12, "int main() { " + ("i @" + text + " " + high(60)).replace("REST", "%") + "; }");
            b.fault(12, "int main() { " + ("(" + high(60) + ") @" + text + " i").replace("REST", "%") + "; }");
        }
        b.about("The HEIGHT of NAMES, NUMBERS, STRINGS is 0");
        for (String leaf : new String[] {"i", "1", "'a'", "\"a\""}) {
            formed(b, "int main() { " + leaf + " + i".repeat(60) + "; }");
            b.fault(12, "int main() { " + leaf + " + i".repeat(60) + " @+ i; }");
        }
        b.about("of ( E ) that of E");
        formed(b, "int main() { (((" + high(60) + "))); }");
        formed(b, "int main() { ((i))" + " + ((i))".repeat(60) + "; }");
        b.fault(12, "int main() { (((" + high(60) + " @+ i))); }");
        b.about("of a CALL without arguments, of sizeof of a TYPE 1");
        for (String one : new String[] {"f()", "sizeof (int)", "sizeof (struct A *)", "f(1)", "sizeof i", "-i", "p[0]"}) {
            formed(b, "int main() { " + one + " + i".repeat(59) + "; }");
            b.fault(12, "int main() { " + one + " + i".repeat(59) + " @+ i; }");
        }
        b.about("in an E, wherever that stands");
        b.fault(12, "int a[" + high(60).replace("i", "1") + " @+ 1];");
        b.right("int a[" + high(60).replace("i", "1") + "]; int main() { }");
        b.fault(12, "int a = { 1, { " + high(60) + " @+ i } };");
        b.fault(12, "enum { A = " + high(60) + " @+ i };");
        b.fault(12, "int f(int a[" + high(60) + " @+ i]);");
        for (String ahead : new String[] {"if (", "while (", "for (", "for (;", "for (;;", "switch (", "do ; while (", "return ", "int x[", "int x = ", "switch (1) { case "}) {
            b.fault(12, "int main() { " + ahead + high(60) + " @+ i");
        }
    }

    private static void heightsInTime(Bench b) {
        b.about("as soon as its last part, as long as that can go on, is whole (ahead of what is wrong with the token behind)");
        String ahead = "int main() { " + high(60) + " ";
        for (String token : new String[] {")", "]", "}", "i", "1", "\"a\"", "else", "int", ":", "{", "~", "!", "?", ",", "+", "-", "=", "+=", "|", "&&", "<", "=="}) {
            b.fault(12, ahead + "@+ i " + token);
        }
        b.fault(12, ahead + "@+ i");
        b.fault(12, ahead + "@+ 1 (");
        b.fault(12, ahead + "@+ (i) (");
        b.fault(2, ahead + "+ @");
        b.fault(2, ahead + "+ @)");
        // The last part goes on with what binds more tightly.
        b.fault(2, ahead + "+ i * @)");
        b.fault(2, ahead + "+ i [ @]");
        b.fault(2, ahead + "+ i . @1");
        b.fault(2, ahead + "+ i ( @]");
        b.fault(2, ahead + "+ - @)");
        b.fault(12, ahead + "@+ i * i * i )");
        b.fault(12, ahead + "@+ i ++ )");
        b.fault(12, ahead + "@+ i . a )");
        b.fault(2, "int main() { i = " + high(59) + " = @)");
        b.fault(12, "int main() { i @= " + high(60) + " )");
        b.fault(12, "int main() { i @? 1 : " + high(60) + " = 1; }");
        b.fault(2, "int main() { i ? 1 : " + high(60) + " ? @)");
        b.about("of an index and a CALL behind their ] and ), of a . or -> behind its NAME");
        b.fault(2, "int main() { i[" + high(60) + " @)");
        b.fault(12, "int main() { i@[" + high(60) + "] )");
        b.fault(2, "int main() { f(" + high(60) + " @]");
        b.fault(12, "int main() { f@(" + high(60) + ") ]");
        b.fault(2, "int main() { f(" + high(60) + ", @)");
        b.fault(2, "int main() { (" + high(60) + ").@1");
        b.fault(12, "int main() { (" + high(60) + ")@.a )");
        b.fault(2, "int main() { (" + high(60) + ")->@int");
        b.fault(12, "int main() { (" + high(60) + ")@->a )");
        b.fault(12, "int main() { (" + high(60) + ")@++ )");
    }
}
