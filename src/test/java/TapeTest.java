/** Promises 1, 2 and 4: a new object, feed, supply. */
public final class TapeTest {
    public static void main(String[] args) {
        Bench b = new Bench();
        newObject(b);
        feed(b);
        supply(b);
        b.close();
    }

    private static void newObject(Bench b) {
        WordFoundry x = b.fresh();
        int[] due = {0, 0, 0, -1, 0, 0, 0, 0, 0, 0, 0, 0, 0, -1};
        for (int what = 0; what < due.length; what++) {
            b.due("new look " + what, x.look(what), due[what]);
        }
        b.due("new look -1", x.look(-1), -1);
        b.due("new begin", x.begin(4096), false);
        b.due("new go", x.go(1), -1);
        b.due("new out", x.out(0), -1);
        b.due("new peek", x.peek(0), -1);
        b.due("new thing", x.thing(0, 0), -1);
        b.due("new local", x.local(0, 0, 0), -1);
        b.due("new layout", x.layout(0, -1), -1);
        b.due("new frame", x.frame(0, 0), -1);
        b.due("new supply", x.supply(), 0);
        b.due("new cast", x.cast(), 11);
    }

    private static void feed(Bench b) {
        WordFoundry x = b.fresh();
        for (int n : new int[] {0, -1, 25, Integer.MIN_VALUE, Integer.MAX_VALUE}) {
            b.due("feed " + n, x.feed(n, 1, 2, 3), -1);
        }
        b.due("nothing was fed", x.look(0), 0);
        b.due("feed 1", x.feed(1, 0x4241, 0, 0), 1);
        b.due("feed 9", x.feed(9, 0x4847464544434241L, 0x5049, 0), 10);
        b.due("feed 24", x.feed(24, 0x8081828384858687L, -1L, Long.MIN_VALUE), 34);
        b.due("look 0", x.look(0), 34);
        for (int i = 0; i < 169; i++) {
            x.feed(24, 0, 0, 0);
        }
        b.due("4090", x.look(0), 4090);
        b.due("beyond 4096", x.feed(7, 0, 0, 0), -1);
        b.due("still 4090", x.look(0), 4090);
        b.due("up to 4096", x.feed(6, 0, 0, 0), 4096);
        b.due("one more", x.feed(1, 0, 0, 0), -1);
    }

    private static void supply(Bench b) {
        WordFoundry x = b.fresh();
        String text = "int main() { int k; while ((k = get()) != -1) put(k + 1); return get(); }";
        b.due("cast", Bench.cast(x, text), 0);
        Bench.feed(x, "ab\u00ff");
        b.due("supply", x.supply(), 3);
        b.due("tape", x.look(0), 0);
        b.due("left", x.look(11), 3);
        x.begin(1024);
        x.go(2);
        b.due("left after one", x.look(11), 1);
        b.due("begin anew", x.begin(2048), true);
        b.due("the INPUT stays as far as it was not taken", x.look(11), 1);
        x.go(100);
        b.due("ended", x.look(2), -1);
        b.due("out 0", x.out(0), 0);
        b.due("out count", x.look(5), 1);
        Bench.feed(x, "xyz");
        x.supply();
        Bench.feed(x, "w");
        b.due("a later INPUT", x.supply(), 1);
        b.due("takes the earlier one's place", x.look(11), 1);
        b.due("cast leaves the INPUT", Bench.cast(x, text), 0);
        b.due("left behind a cast", x.look(11), 1);
        x.begin(1024);
        x.go(100);
        b.due("w", x.out(0), 'x');
        b.due("an empty tape is an empty INPUT", x.supply(), 0);
    }
}
