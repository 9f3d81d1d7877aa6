/** Terms 4, E: every operator with every kind of operand, by the document's rules written down once more. */
public final class OperatorEdgesTest {
    private static final int ARITHMETIC = 0;
    private static final int POINTER = 1;
    private static final int STRUCT = 2;
    private static final int VOID = 3;

    /** An operand: how it is written, what it is, to what it points or which struct it is, and whether it is a VARIABLE. */
    private static final class Operand {
        final String text;
        final int kind;
        final String key;
        final boolean variable;
        final boolean array;
        final int constant;

        Operand(String text, int kind, String key, String told) {
            this.text = text;
            this.kind = kind;
            this.key = key;
            this.variable = told.contains("v");
            this.array = told.contains("a");
            this.constant = told.contains("0") ? 0 : told.contains("5") ? 5 : -1;
        }

        boolean isNull() {
            return constant == 0 && !key.equals("unsigned");
        }

        boolean scalar() {
            return kind == ARITHMETIC || kind == POINTER;
        }
    }

    private static final Operand[] OPERANDS = {
        new Operand("i", ARITHMETIC, "int", "v"), new Operand("c", ARITHMETIC, "char", "v"), new Operand("u", ARITHMETIC, "unsigned", "v"), new Operand("5", ARITHMETIC, "int", "5"),
        new Operand("0", ARITHMETIC, "int", "0"), new Operand("(unsigned) 0", ARITHMETIC, "unsigned", "0"), new Operand("E5", ARITHMETIC, "int", "5"), new Operand("p", POINTER, "int", "v"),
        new Operand("arr", POINTER, "int", "va"), new Operand("m", POINTER, "int[3]", "va"), new Operand("&arr", POINTER, "int[4]", ""), new Operand("q", POINTER, "char", "v"),
        new Operand("\"a\"", POINTER, "char", "a"), new Operand("v", POINTER, "void", "v"), new Operand("n", POINTER, "N", "v"), new Operand("ps", POINTER, "S", "v"),
        new Operand("&p", POINTER, "int*", ""), new Operand("s", STRUCT, "S", "v"), new Operand("*ps", STRUCT, "S", "v"), new Operand("t", STRUCT, "T", "v"), new Operand("l", STRUCT, "L", "v"),
        new Operand("(0, s)", STRUCT, "S", ""), new Operand("vf()", VOID, "", ""), new Operand("(void) 1", VOID, "", ""), new Operand("ps->a", ARITHMETIC, "int", "v"), new Operand("q[0]", ARITHMETIC, "char", "v"),
        new Operand("i++", ARITHMETIC, "int", ""), new Operand("f(1, 0)", ARITHMETIC, "int", ""), new Operand("(char) i", ARITHMETIC, "int", ""), new Operand("*p", ARITHMETIC, "int", "v"),
        new Operand("s.r", POINTER, "int", "va"), new Operand("get()", ARITHMETIC, "int", ""), new Operand("&c", POINTER, "char", ""), new Operand("(void *) p", POINTER, "void", "")};

    public static void main(String[] args) {
        Bench b = new Bench();
        binary(b);
        assignments(b);
        choices(b);
        unary(b);
        casts(b);
        parts(b);
        calls(b);
        sizes(b);
        ranks(b);
        folds(b);
        results(b);
        outermost(b);
        b.close();
    }

    // Operators between parts, from the loosest rank to the tightest one.
    private static final String[][] RANKS = {{"||"}, {"&&"}, {"|"}, {"^"}, {"&"}, {"==", "!="}, {"<", ">", "<=", ">="}, {"<<", ">>"}, {"+", "-"}, {"*", "/", "%"}};

    private static int worked(String op, int a, int c) {
        switch (op) {
            case "||": return a != 0 || c != 0 ? 1 : 0;
            case "&&": return a != 0 && c != 0 ? 1 : 0;
            case "|": return a | c;
            case "^": return a ^ c;
            case "&": return a & c;
            case "==": return a == c ? 1 : 0;
            case "!=": return a != c ? 1 : 0;
            case "<": return a < c ? 1 : 0;
            case ">": return a > c ? 1 : 0;
            case "<=": return a <= c ? 1 : 0;
            case ">=": return a >= c ? 1 : 0;
            case "<<": return a << c;
            case ">>": return a >> c;
            case "+": return a + c;
            case "-": return a - c;
            case "*": return a * c;
            case "/": return c == 0 ? 0 : a / c;
            default: return c == 0 ? 0 : a % c;
        }
    }

    private static void ranks(Bench b) {
        b.about("BINARY: UNARY and operators between, from the loosest: ..; of one rank to the left");
        for (int i = 0; i < RANKS.length; i++) {
            for (int k = 0; k < RANKS.length; k++) {
                for (String first : RANKS[i]) {
                    for (String second : RANKS[k]) {
                        rank(b, first, second, i >= k);
                    }
                }
            }
        }
    }

    /** Three numbers between which it makes a difference which operator is worked out first, as far as there are such. */
    private static void rank(Bench b, String first, String second, boolean toTheLeft) {
        int[] numbers = {0, 1, 2, 3, 5, 7};
        for (int x : numbers) {
            for (int y : numbers) {
                for (int z : numbers) {
                    int left = worked(second, worked(first, x, y), z);
                    int right = worked(first, x, worked(second, y, z));
                    boolean zero = (first + second).matches(".*[/%].*") && (y == 0 || z == 0 || worked(second, y, z) == 0);
                    if (left != right && !zero) {
                        String e = x + " " + first + " " + y + " " + second + " " + z;
                        b.ends(toTheLeft ? left : right, "int main() { return " + e + "; }");
                        b.ends(toTheLeft ? left : right, "int main() { int x = " + x + ", y = " + y + ", z = " + z + "; return x " + first + " y " + second + " z; }");
                        return;
                    }
                }
            }
        }
    }

    private static String number(int value) {
        return value == Integer.MIN_VALUE ? "(-2147483647 - 1)" : "(" + value + ")";
    }

    private static void folds(Bench b) {
        b.about("what an operator makes of constant ones is what it makes of others");
        int[] numbers = {0, 1, -1, 2, 7, -7, 31, Integer.MAX_VALUE, Integer.MIN_VALUE};
        for (String[] rank : RANKS) {
            for (String op : rank) {
                for (int x : numbers) {
                    StringBuilder constant = new StringBuilder("int main() { int r = 0; ");
                    StringBuilder variable = new StringBuilder("int main() { int r = 0, x = " + number(x) + ", z; ");
                    int due = 0;
                    for (int z : numbers) {
                        if ((op.equals("/") || op.equals("%")) && z == 0) {
                            continue;
                        }
                        due = due * 3 + worked(op, x, z);
                        constant.append("r = r * 3 + (").append(number(x)).append(op).append(number(z)).append("); ");
                        variable.append("z = ").append(number(z)).append("; r = r * 3 + (x ").append(op).append(" z); ");
                    }
                    b.ends(due, constant + "return r; }");
                    b.ends(due, variable + "return r; }");
                }
            }
        }
    }

    private static void results(Bench b) {
        b.about("the type of what an operator makes");
        String[] pointers = {"p + 1", "1 + p", "p - 1", "arr + i", "i + arr", "p++", "++p", "p--", "--p", "p = 0", "p += 1", "p -= 1", "&i", "&arr[1]", "(int *) q", "i ? p : 0", "i ? 0 : p", "(1, p)", "(1, arr)", "m[1]",
            "*m", "s.r", "ps->r", "&*p", "&ps->a"};
        for (String e : pointers) {
            b.rightIn("p = (" + e + "); *(" + e + "); (" + e + ")[1]; (" + e + ") - p; (" + e + ") == p; p - (" + e + ");");
            b.faultIn(5, "q @= (" + e + ");");
            b.faultIn(5, "i @= (" + e + ");");
            b.faultIn(5, "(" + e + ") @* 2;");
        }
        String[] numbers = {"p - p", "arr - p", "p == p", "p != 0", "p < p", "p >= arr", "!p", "p && p", "p || i", "sizeof p", "i + u", "c * c", "-c", "(int) p", "*p", "f(1, q)", "i = 1", "c = 1", "i ? 1 : u", "(p, 1)"};
        for (String e : numbers) {
            b.rightIn("i = (" + e + "); c = (" + e + "); (" + e + ") * 2; arr[" + e + "]; p + (" + e + "); switch (" + e + ") { }");
            b.faultIn(5, "p @= (" + e + ");");
            b.faultIn(5, "@*(" + e + ");");
        }
        for (String e : new String[] {"p - p", "p == p", "p < p", "!u", "u && u", "u < u", "u == u", "sizeof u", "c - c", "(char) u", "i ? c : i"}) {
            // They are int's: one less than 0 is below it.
            b.ends(1, Bench.WORLD + "int main() { return (" + e + ") - 9 < 0; }");
        }
        for (String e : new String[] {"u", "-u", "~u * 0", "u + 0", "0 + u", "u - c", "i & u", "u | i", "u << i", "u >> i", "u = 1", "u += 1", "u++", "++u", "i ? u : i", "i ? i : u", "(0, u)", "(unsigned) i"}) {
            b.ends(0, Bench.WORLD + "int main() { return (" + e + ") - 9 < 0; }");
        }
        for (String e : new String[] {"i << u", "i >> u", "c << u", "i = u", "i += u", "c = u"}) {
            b.ends(1, Bench.WORLD + "int main() { return (" + e + ") - 9 < 0; }");
        }
    }

    /** No E but one of its own struct can be the INIT of a struct: 5 AT it. */
    private static void outermost(Bench b) {
        b.about("AT an E is at its outermost operator: of CALLS, CASTS at their (, of indices at their [, of ? at that; without one at its first sign; of ( E ) AT E");
        String[] marked = {"@i", "@5", "@0x5", "@'a'", "@\"a\"", "@E5", "@s", "@-i", "@~i", "@!i", "@&i", "@*p", "@++i", "@--i", "i@++", "i@--", "@(int) i", "@(void) i", "@sizeof i", "@sizeof (int)", "@sizeof (i)",
            "f@(1, q)", "vf@()", "arr@[0]", "s@.a", "ps@->a", "i @? 1 : 2", "i @= 1", "(1@, 2)", "(@i)", "((@5))", "(((i @+ 1)))", "((@-i))", "(f@(1, q))", "i + 1 @+ 2", "i - 1 @- 2", "i @- (1 - 2)", "i @+ 1 * 2",
            "i * 1 @+ 2", "i @= i = 1", "(i = 1) @+ 1", "i @? 1 : i ? 2 : 3", "(i ? 1 : 2) @? 3 : 4", "i + 1 @? 2 : 3", "@-i++", "@*p++", "(*p)@++", "@++*p", "@-ps->a", "m[0]@[1]", "ps->r@[1]", "s.r@[0]", "@&s.r[1]",
            "(*ps)@.a", "(&s)@->a", "f(1, q) @+ f(1, q)", "@-f(1, q)", "@!arr[0]", "sizeof i @+ 1", "(int) i @+ 1", "@(int) -i", "@-(int) i", "@(int) (char) i", "i && i @|| i", "i @|| i && i", "i | i @&& i", "(1, 2@, 3)",
            "(1@, (2, 3))", "f@(i + 1, q)", "arr@[i + 1]", "i @= i + 1", "i @+= i ? 1 : 2", "arr[0] @= arr[1]", "- 1 @- - 1", "@sizeof -i", "@sizeof arr[0]", "i == 1 @& 1", "i & 1 @^ 1"};
        for (String e : marked) {
            b.faultIn(5, "struct T z = " + e + ";");
        }
        for (String[] rank : RANKS) {
            for (String op : rank) {
                b.faultIn(5, "struct T z = i @" + op + " i;");
                b.faultIn(5, "struct T z = (c) @" + op + " (-i);");
            }
        }
        for (String op : new String[] {"=", "+=", "-=", "*=", "/=", "%=", "&=", "|=", "^=", "<<=", ">>="}) {
            b.faultIn(5, "struct T z = i @" + op + " i;");
            b.faultIn(5, "struct T z = (i @" + op + " i + 1);");
        }
    }

    private static void told(Bench b, int fault, String marked) {
        if (fault == 0) {
            b.rightIn(marked.replace("@", ""));
        } else {
            b.faultIn(fault, marked);
        }
    }

    /** The fault of a pointer that can't be MOVED. */
    private static int moved(Operand o) {
        return o.key.equals("void") ? 5 : o.key.equals("N") ? 9 : 0;
    }

    private static boolean fits(Operand o, Operand to) {
        if (to.kind == POINTER) {
            return o.isNull() || o.kind == POINTER && (o.key.equals(to.key) || o.key.equals("void") || to.key.equals("void"));
        }
        return to.kind == ARITHMETIC && o.kind == ARITHMETIC;
    }

    private static int ofTwo(String op, Operand a, Operand c) {
        boolean arithmetic = a.kind == ARITHMETIC && c.kind == ARITHMETIC;
        boolean alike = a.kind == POINTER && c.kind == POINTER && a.key.equals(c.key);
        switch (op) {
            case "/": case "%":
                return !arithmetic ? 5 : a.constant >= 0 && c.constant == 0 ? 8 : 0;
            case "*": case "&": case "^": case "|": case "<<": case ">>":
                return arithmetic ? 0 : 5;
            case "+":
                return arithmetic ? 0 : a.kind == POINTER && c.kind == ARITHMETIC ? moved(a) : a.kind == ARITHMETIC && c.kind == POINTER ? moved(c) : 5;
            case "-":
                return arithmetic ? 0 : a.kind == POINTER && c.kind == ARITHMETIC || alike ? moved(a) : 5;
            case "==": case "!=":
                return arithmetic || a.kind == POINTER && fits(c, a) || c.kind == POINTER && fits(a, c) ? 0 : 5;
            case "<": case ">": case "<=": case ">=":
                return arithmetic || alike ? 0 : 5;
            default:
                return a.scalar() && c.scalar() ? 0 : 5;
        }
    }

    private static void binary(Bench b) {
        b.about("* / % & ^ |; << >>; + -; == !=; < > <= >=; && ||");
        for (String op : new String[] {"*", "/", "%", "&", "^", "|", "<<", ">>", "+", "-", "==", "!=", "<", ">", "<=", ">=", "&&", "||"}) {
            for (Operand a : OPERANDS) {
                for (Operand c : OPERANDS) {
                    told(b, ofTwo(op, a, c), "(" + a.text + ") @" + op + " (" + c.text + ");");
                }
            }
        }
    }

    private static int ofAssignment(String op, Operand a, Operand c) {
        if (!a.variable) {
            return 6;
        }
        if (op.equals("=")) {
            if (a.kind == STRUCT) {
                return c.kind != STRUCT || !a.key.equals(c.key) ? 5 : a.key.equals("L") ? 12 : 0;
            }
            return !a.array && fits(c, a) ? 0 : 5;
        }
        if (a.kind == ARITHMETIC && c.kind == ARITHMETIC) {
            return 0;
        }
        boolean moves = op.equals("+=") || op.equals("-=");
        return moves && a.kind == POINTER && !a.array && c.kind == ARITHMETIC ? moved(a) : 5;
    }

    private static void assignments(Bench b) {
        b.about("=: the left one is a VARIABLE 6, scalar and the right one FITS, or both of one struct (of more than 32 bytes: 12), else 5; op=: a VARIABLE 6, ..");
        for (String op : new String[] {"=", "+=", "-=", "*=", "/=", "%=", "&=", "|=", "^=", "<<=", ">>="}) {
            for (Operand a : OPERANDS) {
                for (Operand c : OPERANDS) {
                    told(b, ofAssignment(op, a, c), "(" + a.text + ") @" + op + " (" + c.text + ");");
                }
            }
        }
    }

    private static int ofChoice(Operand a, Operand c) {
        if (a.kind == ARITHMETIC && c.kind == ARITHMETIC || a.kind == VOID && c.kind == VOID) {
            return 0;
        }
        if (a.kind == POINTER && c.kind == POINTER) {
            return a.key.equals(c.key) || a.key.equals("void") || c.key.equals("void") ? 0 : 5;
        }
        return a.kind == POINTER && c.isNull() || c.kind == POINTER && a.isNull() ? 0 : 5;
    }

    private static void choices(Bench b) {
        b.about("?: the first SCALAR (when it has been gone through), then, of the others: ..; else 5 at it");
        for (Operand a : OPERANDS) {
            told(b, a.scalar() ? 0 : 5, "(" + a.text + ") @? 1 : 2;");
            for (Operand c : OPERANDS) {
                told(b, ofChoice(a, c), "i @? " + a.text + " : (" + c.text + ");");
            }
        }
        b.faultIn(5, "s @? x : y;");
        b.faultIn(3, "@x ? s : y;");
        b.about("a pointer and NULL: the pointer; a pointer and one to void: that to void");
        b.rightIn("p = i ? p : 0; p = i ? 0 : p; q = i ? v : p; q = i ? p : v; p = i ? arr : p; v = i ? v : 0;");
        b.faultIn(5, "q @= (i ? p : 0);");
        b.faultIn(5, "q @= (i ? 0 : p);");
        b.faultIn(5, "(i ? p : v) @+ 1;");
        b.faultIn(5, "(i ? 0 : v) @+ 1;");
        b.rightIn("(i ? 0 : p) + 1;");
    }

    private static void unary(Bench b) {
        for (Operand a : OPERANDS) {
            String part = " (" + a.text + ")";
            b.about("- ~: arithmetic, else 5 at it");
            told(b, a.kind == ARITHMETIC ? 0 : 5, "@-" + part + ";");
            told(b, a.kind == ARITHMETIC ? 0 : 5, "@~" + part + ";");
            b.about("!: scalar, 5");
            told(b, a.scalar() ? 0 : 5, "@!" + part + ";");
            b.about("&: a VARIABLE (also an array), else 6 at it");
            told(b, a.variable ? 0 : 6, "@&" + part + ";");
            b.about("*: a pointer, not to void, 5; to a struct that isn't complete 9, at it");
            told(b, a.kind == POINTER ? moved(a) : 5, "@*" + part + ";");
            b.about("++ --: a VARIABLE 6, scalar 5, a pointer that can be MOVED (to void: 5; to a struct that isn't complete: 9), at it");
            int step = !a.variable ? 6 : !a.scalar() || a.array ? 5 : a.kind == POINTER ? moved(a) : 0;
            for (String op : new String[] {"++", "--"}) {
                told(b, step, "@" + op + part + ";");
                told(b, step, part + "@" + op + ";");
            }
        }
        b.about("&: a pointer to it");
        b.rightIn("p = &i; q = &c; int **x = &p; ps = &s; p = &arr[1]; p = &m[1][1]; p = &s.a; q = &ps->b; &arr == &arr; p = &*p;");
        b.faultIn(5, "p @= &c;");
        b.faultIn(5, "p @= &arr;");
        b.faultIn(5, "p @= &p;");
    }

    private static void casts(Bench b) {
        b.about("CAST: to void of anything; to a scalar one of a scalar one; else 5 at it");
        for (Operand a : OPERANDS) {
            String part = " (" + a.text + ");";
            told(b, 0, "@(void)" + part);
            for (String type : new String[] {"int", "char", "unsigned", "int *", "void *", "struct S *", "struct N **"}) {
                told(b, a.scalar() ? 0 : 5, "@(" + type + ")" + part);
            }
            told(b, 5, "@(struct S)" + part);
            told(b, 5, "@(struct N)" + part);
        }
    }

    private static void parts(Bench b) {
        b.about("[: a pointer and an arithmetic one, 5, MOVED and * as told, at it");
        for (Operand a : OPERANDS) {
            for (Operand c : OPERANDS) {
                told(b, a.kind == POINTER && c.kind == ARITHMETIC ? moved(a) : 5, "(" + a.text + ")@[" + c.text + "];");
            }
            b.about(".: a VARIABLE that is a struct, else 5");
            boolean whole = a.kind == STRUCT && a.variable;
            boolean has = a.key.equals("S") || a.key.equals("T");
            told(b, whole ? has ? 0 : 3 : 5, whole ? "(" + a.text + ").@a;" : "(" + a.text + ")@.a;");
            b.about("->: a pointer to a struct, else 5, complete 9, at it; then the field, 3 AT its NAME");
            boolean points = a.kind == POINTER && a.key.equals("S");
            told(b, points ? 0 : a.kind == POINTER && a.key.equals("N") ? 9 : 5, "(" + a.text + ")@->a;");
            if (points) {
                told(b, 3, "(" + a.text + ")->@x;");
            }
            b.about("[: a pointer and an arithmetic one, 5, MOVED and * as told, at it");
        }
        b.faultIn(3, "s.@x;");
        b.faultIn(3, "l.@a;");
        b.about("a field of a VARIABLE, an index, * of a pointer, -> too");
        b.rightIn("s.a = 1; arr[0] = 1; *p = 1; ps->a = 1; (*ps).a++; m[0][1]++; &s.r[1]; &ps->r; (i) = 1; (((*p)))++;");
        b.faultIn(5, "(0, s)@.a = 1;");
        b.faultIn(6, "(0, i) @= 1;");
        b.faultIn(6, "(char) c @= 1;");
        b.faultIn(6, "i++ @= 1;");
    }

    private static void calls(Bench b) {
        b.about("A NAME: not known 3, a function 5 AT it");
        b.faultIn(3, "@x;");
        b.faultIn(5, "@f;");
        b.faultIn(5, "@vf;");
        b.faultIn(5, "@main;");
        b.faultIn(5, "@halt;");
        b.about("CALL: the NAME (3; no function: 5 AT it)");
        b.faultIn(3, "@x(y);");
        b.faultIn(5, "@i(y);");
        b.faultIn(5, "@E5(y);");
        b.faultIn(5, "@p(y);");
        b.about("each argument: its own faults, too many 7 AT it, it FITS 5 AT it; too few: 7 at the )");
        b.rightIn("f(1, q); vf(); put(1); get(); halt(1);");
        b.faultIn(7, "f(@);");
        b.faultIn(7, "f(1 @);");
        b.faultIn(7, "f(1, q, @2);");
        b.faultIn(7, "f(1, q, 2 @+ 2, x);");
        b.faultIn(7, "f(1, q, @s);");
        b.faultIn(7, "vf(@1);");
        b.faultIn(3, "f(1, q, @x);");
        b.faultIn(3, "f(@x);");
        b.faultIn(5, "f(@q);");
        b.faultIn(5, "f(1, @1);");
        b.faultIn(5, "f(@s, x);");
        b.faultIn(5, "f(vf@(), x);");
        b.faultIn(7, "f(f(1 @));");
        String eight = "int g(int a, int b, int c, int d, int e, int f, int h, int i) { return a; } ";
        b.right(eight + "int main() { g(1, 2, 3, 4, 5, 6, 7, 8); }");
        b.fault(7, eight + "int main() { g(1, 2, 3, 4, 5, 6, 7@); }");
        b.fault(7, eight + "int main() { g(1, 2, 3, 4, 5, 6, 7, 8, @9); }");
    }

    private static void sizes(Bench b) {
        b.about("sizeof: int; void, a struct that isn't complete: 9 at it");
        int[] bytes = {4, 1, 4, 4, 4, 4, 4, 4, 16, 24, 4, 4, 2, 4, 4, 4, 4, 20, 20, 4, 33, 20, 0, 0, 4, 1, 4, 4, 4, 4, 12, 4, 4, 4};
        for (int k = 0; k < OPERANDS.length; k++) {
            if (bytes[k] == 0) {
                b.faultIn(9, "@sizeof (" + OPERANDS[k].text + ");");
            } else {
                b.ends(bytes[k], Bench.WORLD + "int main() { return sizeof (" + OPERANDS[k].text + "); }");
            }
        }
        b.faultIn(9, "@sizeof (void);");
        b.faultIn(9, "@sizeof (struct N);");
        b.faultIn(9, "sizeof @*n;");
        b.faultIn(9, "sizeof n@[0];");
        b.rightIn("sizeof (void *); sizeof (struct N *); sizeof n; sizeof v;");
        b.ends(1, "int main() { return -1 < sizeof (int); }");
        b.about("its E is gone through, but not run");
        b.faultIn(3, "sizeof @x;");
        b.faultIn(8, "sizeof (1 @/ 0);");
        b.ends(7, "int k = 7; int f() { k = 9; return 1; } int main() { sizeof f(); sizeof k++; sizeof (k = 5); sizeof *(int *) 0; return k; }");
        b.about("Values of char that are no VARIABLES any more are int's (for sizeof, too)");
        String[] values = {"c", "(c)", "q[0]", "*q", "s.b", "ps->b", "*&c", "c + 0", "-c", "~c", "!c", "c++", "++c", "c--", "c = 1", "c += 1", "(char) c", "(0, c)", "1 ? c : c", "g()", "c << 0", "c & c"};
        for (int k = 0; k < values.length; k++) {
            b.ends(k < 7 ? 1 : 4, Bench.WORLD + "char g() { return 1; } int main() { return sizeof (" + values[k] + "); }");
        }
        b.about(", : its last one's value (each , is an operator of its own; a struct may come so to the right of =)");
        b.rightIn("s = (1, s); s = (i, p, *ps); struct S x = (0, s); i = (s, p, 1); p = (1, arr);");
        b.faultIn(5, "s @= (s, 1);");
        b.faultIn(5, "p @= (p, 1);");
        b.faultIn(5, "p @= (1, 0);");
        b.ends(3, "int main() { return 1, 2, 3; }");
    }
}
