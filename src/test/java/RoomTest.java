import com.sun.management.ThreadMXBean;
import java.lang.management.ManagementFactory;

/** What the longest runs of calls make stays far below the room that all of them share. */
public final class RoomTest {
    private static final int CALLS = 512;
    // 7.3 million elements of four bytes at the least; a run that makes less than a fifth of that has room to spare.
    private static final long MOST_BYTES = 6_000_000;

    public static void main(String[] args) {
        Bench b = new Bench();
        dense(b, "int main(){" + "a;".repeat(2039) + "}");
        dense(b, "int a;int main(){" + "a+a;".repeat(1018) + "}");
        dense(b, "int a;int main(){" + "(a),".repeat(50) + "a;" + "-a;".repeat(1200) + "}");
        dense(b, "int " + "*".repeat(4000) + "a;int main(){}");
        dense(b, "int a" + "[1]".repeat(1350) + ";int main(){}");
        dense(b, "char " + many() + ";int main(){}");
        steps(b);
        empty(b);
        b.close();
    }

    private static String many() {
        StringBuilder s = new StringBuilder("a");
        for (int k = 1; k < 480; k++) {
            s.append(",a").append(k);
        }
        return s.toString();
    }

    private static long made() {
        ThreadMXBean bean = (ThreadMXBean) ManagementFactory.getThreadMXBean();
        return bean.getThreadAllocatedBytes(Thread.currentThread().getId());
    }

    private static void due(Bench b, String what, long before) {
        long bytes = made() - before;
        b.due("bytes of " + what + ": " + bytes, bytes < MOST_BYTES, true);
    }

    /** As many casts of a text as 512 calls can feed. */
    private static void dense(Bench b, String text) {
        long[] longs = new long[text.length() / 8 + 4];
        for (int i = 0; i < text.length(); i++) {
            longs[i / 8] |= (text.charAt(i) & 255L) << 8 * (i % 8);
        }
        long before = made();
        WordFoundry x = new WordFoundry();
        int calls = 0;
        while (calls < CALLS) {
            for (int from = 0; from < text.length() && calls < CALLS; from += 24) {
                x.feed(Math.min(24, text.length() - from), longs[from / 8], longs[from / 8 + 1], longs[from / 8 + 2]);
                calls++;
            }
            x.cast();
            calls++;
        }
        due(b, text.substring(0, 30), before);
    }

    private static void steps(Bench b) {
        WordFoundry x = new WordFoundry();
        Bench.cast(x, "int f(int n) { return n ? f(n - 1) + 1 : 0; } int main() { int s = 0; while (1) { s += f(150); put(s); } }");
        long before = made();
        for (int call = 0; call < CALLS; call++) {
            if (call % 50 == 0) {
                x.begin(65536);
            }
            x.go(1000);
        }
        due(b, "steps", before);
        b.due("it still stands", x.look(1), 2);
    }

    private static void empty(Bench b) {
        long before = made();
        WordFoundry x = new WordFoundry();
        for (int call = 0; call < CALLS; call++) {
            x.cast();
        }
        due(b, "empty texts", before);
    }
}
