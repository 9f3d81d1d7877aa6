import java.io.IOException;
import java.lang.reflect.Method;
import java.lang.reflect.Modifier;
import java.nio.charset.StandardCharsets;
import java.nio.file.Files;
import java.nio.file.Path;
import java.nio.file.Paths;
import java.util.HashSet;
import java.util.List;
import java.util.Set;

/** README.md's example: that it answers what README.md says it does, and that it stands there as it stands here. */
public final class ExampleTest {
    public static void main(String[] args) throws IOException {
        Bench b = new Bench();
        example(b);
        lines(b);
        calls(b);
        b.close();
    }

    private static void example(Bench b) {
        WordFoundry x = new WordFoundry();
        feed(x, "int main() { int c; while ((c = get()) >= 0) put(c - 32); return 7; }");
        b.due("x.cast()", x.cast(), 0);
        feed(x, "hi");
        b.due("x.supply()", x.supply(), 2);
        b.due("x.begin(1024)", x.begin(1024), true);
        b.due("x.go(1000)", x.go(1000), 3);
        b.due("x.look(1)", x.look(1), 3);
        b.due("x.look(2)", x.look(2), 7);
        b.due("x.out(0)", x.out(0), 72);
        b.due("x.out(1)", x.out(1), 73);
        b.due("x.out(2)", x.out(2), WordFoundry.NONE);
        feed(x, "int main() { return y; }");
        b.due("x.cast()", x.cast(), 323);
    }

    /** Feeds a text of signs 0 to 255, 24 of them a call. */
    private static void feed(WordFoundry x, String text) {
        for (int from = 0; from < text.length(); from += 24) {
            int n = Math.min(24, text.length() - from);
            long[] eights = new long[3];
            for (int i = 0; i < n; i++) {
                eights[i / 8] |= (long) text.charAt(from + i) << 8 * (i % 8);
            }
            x.feed(n, eights[0], eights[1], eights[2]);
        }
    }

    /** Each line of README.md's Java stands here, its calls with the answers that README.md gives them. */
    private static void lines(Bench b) throws IOException {
        Set<String> here = new HashSet<>();
        for (String line : read(Paths.get("src/test/java/ExampleTest.java"))) {
            here.add(line.trim());
        }
        boolean inside = false;
        for (String line : read(Paths.get("README.md"))) {
            String told = line.trim();
            if (told.startsWith("```")) {
                inside = told.equals("```java");
            } else if (inside && !told.isEmpty()) {
                b.due("README.md: " + told, here.contains(told) || here.contains(asked(told)), true);
            }
        }
    }

    /** What a line 'call; // answer, why' of README.md is here. */
    private static String asked(String told) {
        String[] parts = told.split("; +// ");
        if (parts.length != 2) {
            return told;
        }
        return "b.due(\"" + parts[0] + "\", " + parts[0] + ", " + parts[1].split(":")[0] + ");";
    }

    /** README.md names every call of the face. */
    private static void calls(Bench b) throws IOException {
        String all = String.join("\n", read(Paths.get("README.md")));
        for (Method call : WordFoundry.class.getDeclaredMethods()) {
            if (Modifier.isPublic(call.getModifiers())) {
                b.due("README.md tells of " + call.getName(), all.contains("| `" + call.getName() + "("), true);
            }
        }
    }

    private static List<String> read(Path path) throws IOException {
        return Files.readAllLines(path, StandardCharsets.ISO_8859_1);
    }
}
