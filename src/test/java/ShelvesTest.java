/** Promises 32 to 38: shelves, what they hold, counts. */
public final class ShelvesTest {
    private static final int MIN = Integer.MIN_VALUE, MAX = Integer.MAX_VALUE;
    private static final long REFUSED = Long.MIN_VALUE;
    private static final Check check = new Check("ShelvesTest");

    public static void main(String[] args) {
        keep();
        row();
        put();
        shift();
        taken();
        count();
        check.end();
    }

    private static void keep() {
        BeesSting x = new BeesSting();
        check.due("32: no body yet", x.keep(0, 0), -1);
        x.body(2);
        check.due("32: a body", x.keep(0, 0), 1);
        check.due("32: it is there", x.taken(0, 0), 2);
        check.due("32: shelf -1", x.keep(-1, 0), -1);
        check.due("32: shelf 6", x.keep(6, 0), -1);
        check.due("32: body 1", x.keep(0, 1), -1);
        check.due("32: body -2", x.keep(0, -2), -1);
        check.due("32: BAD changes nothing", x.taken(0, 0), 2);
        check.due("32: nothing", x.keep(0, -1), 1);
        check.due("32: nothing is there", x.taken(0, 0), -11);
        check.due("32: nothing instead of a row", x.row(5, 0, 3) + x.keep(5, -1), 2);
        check.due("32: nothing is there", x.put(5, 0, 1), -11);
    }

    private static void row() {
        BeesSting x = new BeesSting();
        check.due("33: sort -1", x.row(0, -1, 1), -1);
        check.due("33: sort 5", x.row(0, 5, 1), -1);
        check.due("33: n 61", x.row(0, 0, 61), -1);
        check.due("33: n MAX", x.row(0, 0, MAX), -1);
        check.due("33: n -1", x.row(0, 0, -1), -14);
        check.due("33: n MIN", x.row(0, 0, MIN), -14);
        check.due("33: BAD is named first", x.row(0, 5, -1), -1);
        check.due("33: shelf 6", x.row(6, 0, -1), -1);
        check.due("33: shelf -1", x.row(-1, 0, 1), -1);
        check.due("33: nothing was laid", x.put(0, 0, 1), -11);
        for (int sort = 0; sort < 5; sort++) {
            check.due("33: a row of 60", x.row(0, sort, 60), 1);
            check.due("33: 0 at first", x.element(0, 0), 0);
            check.due("33: 0 at first", x.element(0, 59), 0);
            x.put(0, 0, 1);
            x.put(0, 59, 1);
        }
        check.due("33: a row of none", x.row(0, 0, 0), 1);
        check.due("33: it has no place", x.put(0, 0, 1), -13);
    }

    private static void put() {
        BeesSting x = new BeesSting();
        x.body(0);
        x.keep(1, 0);
        long[] values = {0, 1, -1, 127, 128, 255, 256, 65535, 1L << 31, 1L << 32, Long.MAX_VALUE, Long.MIN_VALUE};
        for (int sort = 0; sort < 5; sort++) {
            x.row(0, sort, 3);
            for (long v : values) {
                long due = sort == 0 ? (byte) v : sort == 1 ? (short) v : sort == 2 ? (int) v : sort == 3 ? v
                        : v != 0 ? 1 : 0;
                check.due("34: put", x.put(0, 2, v), 1);
                check.due("35: lowest bits of " + v, x.element(0, 2), due);
                check.due("35: the others as they were", x.element(0, 1), 0);
            }
        }
        int[][] wrong = {{-1, 0, -1}, {6, 0, -1}, {2, 0, -11}, {2, -1, -11}, {1, 0, -12}, {1, -1, -12},
            {0, -1, -13}, {0, 3, -13}, {0, MAX, -13}, {0, MIN, -13}};
        for (int[] one : wrong) {
            check.due("34: shelf " + one[0] + " place " + one[1], x.put(one[0], one[1], 1), one[2]);
            check.due("35: shelf " + one[0] + " place " + one[1], x.element(one[0], one[1]), REFUSED);
        }
    }

    private static void shift() {
        BeesSting x = new BeesSting();
        Check.bytes(x, 0, 1, 2, 3, 4, 5);
        Check.bytes(x, 1, 9, 9, 9);
        check.due("36: to another", x.shift(0, 2, 1, 1, 2), 2);
        check.due("36: ahead", x.element(1, 0), 9);
        check.due("36: first", x.element(1, 1), 3);
        check.due("36: second", x.element(1, 2), 4);
        check.due("36: onto itself, up", x.shift(0, 0, 0, 1, 4), 4);
        for (int i = 1; i < 5; i++) {
            check.due("36: as they all were", x.element(0, i), i);
        }
        check.due("36: onto itself, down", x.shift(0, 1, 0, 0, 4), 4);
        check.due("36: as they all were", x.element(0, 0), 1);
        check.due("36: as they all were", x.element(0, 3), 4);
        check.due("36: none, at the end", x.shift(0, 5, 1, 3, 0), 0);
        int[][] places = {{6, 0, 0}, {0, 4, 0}, {-1, 0, 1}, {0, -1, 1}, {0, 0, -1}, {0, 0, 4}, {3, 0, 3}, {0, 1, 3},
            {MAX, 0, 1}, {0, MAX, 1}, {1, 1, MAX}, {MIN, 0, 0}};
        for (int[] one : places) {
            check.due("36: places", x.shift(0, one[0], 1, one[1], one[2]), -13);
        }
        x.row(2, 1, 5);
        x.body(0);
        x.keep(3, 0);
        check.due("36: unlike sorts", x.shift(0, 0, 2, 0, 1), -12);
        check.due("36: from a body", x.shift(3, 0, 0, 0, 1), -12);
        check.due("36: to a body", x.shift(0, 0, 3, 0, 1), -12);
        check.due("36: from body to body", x.shift(3, 0, 3, 0, 0), -12);
        check.due("36: from nothing", x.shift(4, 0, 3, 0, 1), -11);
        check.due("36: to nothing", x.shift(3, 0, 4, 0, 1), -11);
        check.due("36: -12 is named first", x.shift(0, -1, 2, 0, 1), -12);
        check.due("36: shelf 6", x.shift(6, 0, 4, 0, 1), -1);
        check.due("36: other -1", x.shift(4, 0, -1, 0, 1), -1);
    }

    private static void taken() {
        int[] above = {-1, 0, 0, 2, 1, 3, 0, 6};
        BeesSting x = new BeesSting();
        for (int kind = 0; kind < 8; kind++) {
            x.body(kind);
        }
        for (int kind = 0; kind < 8; kind++) {
            x.keep(0, kind);
            for (int k = 0; k < 8; k++) {
                boolean under = false;
                for (int at = kind; at >= 0; at = above[at]) {
                    under |= at == k;
                }
                check.due("37: " + kind + " for " + k, x.taken(0, k), under ? kind : -12);
            }
        }
        check.due("37: k -1", x.taken(0, -1), -1);
        check.due("37: k 8", x.taken(0, 8), -1);
        check.due("37: shelf -1", x.taken(-1, 0), -1);
        check.due("37: shelf 6", x.taken(6, 0), -1);
        check.due("37: nothing", x.taken(1, 0), -11);
        x.row(1, 3, 1);
        check.due("37: a row", x.taken(1, 0), -12);
        check.due("37: BAD is named first", x.taken(2, 8), -1);
    }

    private static void count() {
        BeesSting x = Check.parish(1, 2, 3);
        x.feed(1);
        x.mend(0, 0, 9);
        x.body(7);
        x.body(3);
        x.act(0, 1, 1);
        int[] due = {3, 1, 1, 2, 6};
        for (int what = 0; what < 5; what++) {
            check.due("38: count(" + what + ")", x.count(what), due[what]);
        }
        check.due("38: -1", x.count(-1), -1);
        check.due("38: 5", x.count(5), -1);
    }
}
