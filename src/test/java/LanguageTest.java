import java.io.IOException;
import java.nio.charset.StandardCharsets;
import java.nio.file.Files;
import java.nio.file.Paths;
import java.util.regex.Pattern;

/** What of LANGUAGE.md can be seen in the source by simple means. */
public final class LanguageTest {
    private static final String[] FACE = {"feed", "cast", "supply", "begin", "go", "out", "look", "peek", "thing", "local", "layout", "frame"};
    private static final String[] BARRED = {"throw", "try", "catch", "synchronized", "assert", "package", "protected", "Object", "equals",
        "hashCode", "toString", "Exception", "Thread", "Random", "native", "volatile", "var", "interface", "System\\.out"};

    public static void main(String[] args) throws IOException {
        Bench b = new Bench();
        String source = new String(Files.readAllBytes(Paths.get("src/main/java/WordFoundry.java")), StandardCharsets.ISO_8859_1);
        String plain = withoutTexts(source);
        for (String word : BARRED) {
            b.due("no " + word, has(plain, "\\b" + word + "\\b"), false);
        }
        b.due("no arrow", plain.contains("->"), false);
        b.due("no method reference", plain.contains("::"), false);
        b.due("no joining of texts", has(plain, "\"\\s*\\+|\\+\\s*\""), false);
        b.due("one import", plain.split("\\bimport\\b", -1).length - 1, 1);
        b.due("at most twelve classes", plain.split("\\bclass\\b", -1).length - 1 <= 12, true);
        for (String name : FACE) {
            b.due("no private " + name, has(plain, "private [a-zA-Z\\[\\] ]*\\b" + name + "\\("), false);
        }
        b.due("no static state", has(plain, "\\bstatic (?!final)[a-zA-Z\\[\\]]+ \\w+( =|;)"), false);
        b.due("no loop without an end", has(plain, "while \\(true\\)|for \\(;|for \\([^;]*;\\s*;"), false);
        methods(b, plain);
        b.close();
    }

    private static boolean has(String text, String pattern) {
        return Pattern.compile(pattern).matcher(text).find();
    }

    /** The source without its comments, and with empty texts and signs. */
    private static String withoutTexts(String source) {
        StringBuilder plain = new StringBuilder();
        int at = 0;
        while (at < source.length()) {
            char c = source.charAt(at);
            if (source.startsWith("/*", at)) {
                at = source.indexOf("*/", at) + 2;
            } else if (source.startsWith("//", at)) {
                at = source.indexOf('\n', at);
            } else if (c == '"' || c == '\'') {
                plain.append(c).append(c);
                at = quoteEnd(source, at);
            } else {
                plain.append(c);
                at++;
            }
        }
        return plain.toString();
    }

    private static int quoteEnd(String source, int from) {
        int at = from + 1;
        while (source.charAt(at) != source.charAt(from)) {
            at += source.charAt(at) == '\\' ? 2 : 1;
        }
        return at + 1;
    }

    private static void methods(Bench b, String plain) {
        String[] lines = plain.split("\n");
        int begin = -1;
        int count = 0;
        for (int i = 0; i < lines.length; i++) {
            if (lines[i].matches(" {4,8}(private|public) [^=;]*\\) \\{")) {
                begin = i;
                count++;
                b.due("parameters of " + lines[i].trim(), lines[i].split(",").length <= 7, true);
            }
            if (begin >= 0 && lines[i].matches(" {4,8}\\}")) {
                b.due("length of " + lines[begin].trim(), i - begin + 1 <= 60, true);
                begin = -1;
            }
        }
        b.due("methods were seen", count > 150, true);
    }
}
