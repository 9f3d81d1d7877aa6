/** What the tests share: it feeds texts to a foundry, compares answers with what is due, and counts what is wrong. */
final class Bench {
    private static final int CALLS = 512;

    private int wrong = 0;
    private int asked = 0;
    private String sentence = "";
    private int askedBefore = -1;
    // One object for many texts, as long as its calls are promised to be answered.
    private WordFoundry caster = new WordFoundry();
    private int calls = 0;

    /** A new object, for what a test does next. */
    WordFoundry fresh() {
        return new WordFoundry();
    }

    private int castNext(String text) {
        int needed = (text.length() + 23) / 24 + 1;
        if (calls + needed > CALLS) {
            caster = new WordFoundry();
            calls = 0;
        }
        calls += needed;
        return cast(caster, text);
    }

    void due(String what, long got, long want) {
        asked++;
        if (got != want) {
            wrong++;
            tellSentence();
            System.out.println(what + ": answered " + got + ", due is " + want);
        }
    }

    void due(String what, String got, String want) {
        asked++;
        if (!got.equals(want)) {
            wrong++;
            tellSentence();
            System.out.println(what + ": answered " + got + ", due is " + want);
        }
    }

    /** Names the sentence of the document to which the next answers belong. Each one must have some. */
    void about(String quoted) {
        if (asked == askedBefore) {
            wrong++;
            System.out.println("nothing was asked about: " + sentence);
        }
        askedBefore = asked;
        sentence = quoted;
    }

    private void tellSentence() {
        if (!sentence.isEmpty()) {
            System.out.println("[" + sentence + "]");
        }
    }

    void due(String what, boolean got, boolean want) {
        due(what, got ? 1 : 0, want ? 1 : 0);
    }

    /** Ends the test, with exit code 1 if an answer was wrong. */
    void close() {
        about("");
        System.out.println(asked + " answers, " + wrong + " wrong");
        if (wrong != 0 || asked == 0) {
            System.exit(1);
        }
    }

    static void feed(WordFoundry x, String text) {
        for (int from = 0; from < text.length(); from += 24) {
            int n = Math.min(24, text.length() - from);
            long[] parts = new long[3];
            for (int i = 0; i < n; i++) {
                parts[i / 8] |= (text.charAt(from + i) & 255L) << 8 * (i % 8);
            }
            x.feed(n, parts[0], parts[1], parts[2]);
        }
    }

    static int cast(WordFoundry x, String text) {
        feed(x, text);
        return x.cast();
    }

    /** A text that is right. */
    void right(String text) {
        due(text, castNext(text), 0);
    }

    /** A text with a fault at the place of the sign @, which itself is no part of it. */
    void fault(int number, String marked) {
        int place = marked.indexOf('@');
        String text = marked.substring(0, place) + marked.substring(place + 1);
        due(marked, castNext(text), 16 * place + number);
    }

    /** A fault in the BLOCK of main, behind some declarations that many tests need. */
    void faultIn(int number, String marked) {
        fault(number, WORLD + "int main() { " + marked + " }");
    }

    void rightIn(String text) {
        right(WORLD + "int main() { " + text + " }");
    }

    static final String WORLD = "struct S { int a; char b; int r[3]; }; struct T { int a; }; "
        + "struct L { char z[33]; }; int i; unsigned u; char c; int *p; char *q; void *v; struct S s; struct S *ps; "
        + "struct T t; struct N *n; int arr[4]; int m[2][3]; struct L l; void vf() {} int f(int a, char *b) { return a; } "
        + "enum { E0, E5 = 5 }; ";

    /** Runs a text to its end in a MEMORY of 4096 bytes: what it ended with. */
    void ends(int value, String text) {
        ends(value, text, "");
    }

    void ends(int value, String text, String input) {
        WordFoundry x = fresh();
        due(text, cast(x, text), 0);
        feed(x, input);
        x.supply();
        due("begin " + text, x.begin(4096), true);
        run(x);
        due("state " + text, x.look(1), 3);
        due("ended " + text, x.look(2), value);
    }

    /** All that can be seen of an object's state without changing it, but for bytes and things beyond the first ones. */
    static String state(WordFoundry x) {
        StringBuilder s = new StringBuilder();
        for (int what = 0; what <= 12; what++) {
            s.append(x.look(what)).append(' ');
        }
        for (int i = 0; i < 3; i++) {
            s.append("| ").append(x.out(i)).append(' ').append(x.peek(64 + i)).append(' ').append(x.peek(1020 + i)).append(' ');
            for (int what = 0; what < 3; what++) {
                s.append(x.frame(i, what)).append(' ').append(x.thing(i, what + 1)).append(' ');
            }
        }
        return s.toString();
    }

    /** Runs up to 50000 ROUNDS. */
    static void run(WordFoundry x) {
        for (int i = 0; i < 50 && x.look(1) == 2; i++) {
            x.go(1000);
        }
    }

    /** Runs a text into a TRAP at the place of the sign @. */
    void traps(int number, String marked) {
        int place = marked.indexOf('@');
        WordFoundry x = fresh();
        String text = marked.substring(0, place) + marked.substring(place + 1);
        due(marked, cast(x, text), 0);
        due("begin " + marked, x.begin(4096), true);
        run(x);
        due("state " + marked, x.look(1), 4);
        due("trap " + marked, x.look(2), number);
        due("trap's place " + marked, x.look(3), place);
    }
}
