/** Promises 29 to 31: bodies, acts, the trace. */
public final class ActsTest {
    private static final Check check = new Check("ActsTest");

    public static void main(String[] args) {
        body();
        acts();
        traces();
        wrong();
        check.end();
    }

    private static void body() {
        BeesSting x = new BeesSting();
        check.due("29: kind -1", x.body(-1), -1);
        check.due("29: kind 8", x.body(8), -1);
        for (int i = 0; i < 50; i++) {
            check.due("29: number", x.body(i % 8), i);
        }
        check.due("29: full", x.body(0), -3);
        check.due("29: no kind when full", x.body(8), -1);
        check.due("38: bodies", x.count(3), 50);
    }

    // what the bodies of the document make of x, written out
    private static int flies(int kind, int n, int x) {
        switch (kind) {
            case 1: case 4: return x + n + 3;
            case 6: return (x + n) * 2;
            case 7: return (x + n) * 2 - 1;
            default: return x + n;
        }
    }

    private static int stings(int kind, int n, int x) {
        switch (kind) {
            case 2: return -(flies(kind, n, x) * 2);
            case 3: case 5: return -(flies(kind, n, x + 1) * 2);
            case 7: return flies(kind, n, x) * 2 + settles(kind, n, 2);
            default: return flies(kind, n, x) * 2;
        }
    }

    private static int settles(int kind, int n, int x) {
        switch (kind) {
            case 3: return (x ^ n) * 3;
            case 5: return (x ^ n) * 3 - flies(kind, n, 2);
            default: return x ^ n;
        }
    }

    private static int tells(int kind, int n, int x) {
        int plain = stings(kind, n, x) - settles(kind, n, 1);
        return kind == 4 ? plain ^ 5 : kind == 5 ? plain + 1 : plain;
    }

    private static void acts() {
        BeesSting x = new BeesSting();
        for (int i = 0; i < 16; i++) {
            x.body(i % 8);
        }
        for (int body = 0; body < 16; body++) {
            for (int v : new int[] {0, 1, -1, 5, 1000, Integer.MAX_VALUE, Integer.MIN_VALUE}) {
                int kind = body % 8;
                check.due("30: flies " + body, x.act(body, 0, v), flies(kind, body, v));
                check.due("30: stings " + body, x.act(body, 1, v), stings(kind, body, v));
                check.due("30: settles " + body, x.act(body, 2, v), settles(kind, body, v));
                check.due("30: tells " + body, x.act(body, 3, v), tells(kind, body, v));
            }
        }
    }

    private static void trace(BeesSting x, int kind, int act, int... bodies) {
        x.act(kind, act, 3);
        check.due("38: ran", x.count(4), bodies.length);
        for (int i = 0; i < bodies.length; i++) {
            check.due("31: kind " + kind + " act " + act + " place " + i, x.trace(i), bodies[i]);
        }
        check.due("31: behind the last", x.trace(bodies.length), -1);
        check.due("31: -1", x.trace(-1), -1);
    }

    private static void traces() {
        BeesSting x = new BeesSting();
        for (int kind = 0; kind < 8; kind++) {
            x.body(kind);
        }
        check.due("31: none at first", x.trace(0), -1);
        trace(x, 0, 0, 1);
        trace(x, 0, 1, 10, 1);
        trace(x, 0, 2, 11);
        trace(x, 0, 3, 2, 10, 1, 11);
        trace(x, 1, 3, 2, 10, 20, 1, 11);
        trace(x, 2, 3, 2, 30, 10, 1, 11);
        trace(x, 3, 3, 2, 41, 30, 10, 1, 40, 11);
        trace(x, 4, 3, 50, 2, 10, 20, 1, 11);
        trace(x, 5, 2, 60, 40, 11, 1);
        trace(x, 5, 3, 61, 2, 41, 30, 10, 1, 60, 40, 11, 1);
        trace(x, 6, 1, 10, 70, 1);
        trace(x, 7, 3, 2, 80, 10, 81, 70, 1, 11, 11);
        check.due("31: 24", x.trace(24), -1);
        check.due("31: MAX", x.trace(Integer.MAX_VALUE), -1);
    }

    private static void wrong() {
        BeesSting x = new BeesSting();
        x.body(0);
        int[][] none = {{-1, 0}, {1, 0}, {0, -1}, {0, 4}, {50, 0}, {Integer.MIN_VALUE, Integer.MAX_VALUE}};
        for (int[] one : none) {
            x.act(0, 3, 1);
            check.due("30: none such", x.act(one[0], one[1], 7), 0);
            check.due("31: no trace of it", x.trace(0), -1);
            check.due("38: none ran", x.count(4), 0);
        }
    }
}
