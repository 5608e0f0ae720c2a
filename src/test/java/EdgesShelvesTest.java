/** The sentences of the document that name an edge: term 5, promises 29 to 38. */
public final class EdgesShelvesTest {
    private static final int MIN = Integer.MIN_VALUE, MAX = Integer.MAX_VALUE;
    private static final long REFUSED = Long.MIN_VALUE;
    private static final Check check = new Check("EdgesShelvesTest");

    public static void main(String[] args) {
        bodies();
        actsThatWrap();
        actsOfNone();
        traces();
        shelves();
        keep();
        rows();
        put();
        lowestBits();
        element();
        shift();
        shiftRefuses();
        shiftAlike();
        taken();
        counts();
        constants();
        check.end();
    }

    private static BeesSting oneOfEach() {
        BeesSting x = new BeesSting();
        for (int kind = 0; kind < 8; kind++) {
            x.body(kind);
        }
        return x;
    }

    private static void bodies() {
        check.says("BODIES 0 .. 49 are kept by call");
        BeesSting x = new BeesSting();
        for (int i = 0; i < 50; i++) {
            check.due("body " + i, x.body(7 - i % 8), i);
        }
        check.says("A BODY of a KIND (0 .. 7) is kept: its number. BAD, FULL.");
        check.due("a body too many", x.body(0), -3);
        check.due("how many", x.count(3), 50);
        check.due("the last one flies", x.act(49, 0, 1), x.act(41, 0, 1) + 16);
        for (int kind : new int[] {-1, 8, MIN, MAX}) {
            check.due("kind " + kind + " when full", x.body(kind), -1);
            check.due("kind " + kind, new BeesSting().body(kind), -1);
        }
        check.due("kind 0", new BeesSting().body(0), 0);
        check.due("kind 7", new BeesSting().body(7), 0);
    }

    private static void actsThatWrap() {
        check.says("ACTS with x (an int that wraps)");
        BeesSting x = oneOfEach();
        check.due("a bee's MAX", x.act(0, 0, MAX), MAX);
        check.due("a child's MAX", x.act(1, 0, MAX), MAX + 1 + 3);
        check.due("a brook's stings of MAX", x.act(2, 1, MAX), -((MAX + 2) * 2));
        check.due("a court's stings of MAX", x.act(3, 1, MAX), -((MAX + 1 + 3) * 2));
        check.due("a court's settles of MIN", x.act(3, 2, MIN), (MIN ^ 3) * 3);
        check.due("a crier's tells of MIN", x.act(4, 3, MIN), (MIN + 4 + 3) * 2 - (1 ^ 4) ^ 5);
        check.due("a saint's settles of MAX", x.act(5, 2, MAX), (MAX ^ 5) * 3 - 7);
        check.due("a coat's flies of MAX", x.act(6, 0, MAX), (MAX + 6) * 2);
        check.due("a beard's flies of MIN", x.act(7, 0, MIN), (MIN + 7) * 2 - 1);
        check.due("a beard's stings of MIN", x.act(7, 1, MIN), ((MIN + 7) * 2 - 1) * 2 + (2 ^ 7));
    }

    private static void actsOfNone() {
        check.says("An ACT (0 .. 3) of a BODY with x. 0, and no TRACE then: no such BODY, ACT.");
        int[][] none = {{8, 0}, {-1, 0}, {50, 0}, {MIN, 0}, {MAX, 0}, {0, -1}, {0, 4}, {0, MIN}, {0, MAX}, {8, 4}};
        for (int[] one : none) {
            BeesSting x = oneOfEach();
            check.due("a court tells", x.act(3, 3, 7) != 0 ? 1 : 0, 1);
            check.due("act " + one[0] + " " + one[1], x.act(one[0], one[1], 7), 0);
            check.due("no trace", x.trace(0), -1);
            check.due("none ran", x.count(4), 0);
        }
        check.due("of no bodies", new BeesSting().act(0, 0, 7), 0);
        check.says("act() of what there is not: no TRACE.");
        BeesSting x = oneOfEach();
        x.act(0, 0, 0);
        check.due("what ran", x.trace(0) * 10 + x.count(4), 11);
        x.act(9, 0, 0);
        check.due("nothing ran", x.trace(0) * 10 + x.count(4), -10);
    }

    private static void traces() {
        check.says("THE TRACE: numbers of the bodies that ran in the latest act(), as they began; the first 24 are kept.");
        BeesSting x = oneOfEach();
        int[] due = {61, 2, 41, 30, 10, 1, 60, 40, 11, 1};
        x.act(5, 3, 1);
        for (int i = 0; i < due.length; i++) {
            check.due("body " + i, x.trace(i), due[i]);
        }
        check.due("all that ran", x.count(4), due.length);
        x.act(7, 2, 1);
        check.due("of the latest alone", x.trace(0), 11);
        check.due("of the latest alone", x.trace(1), -1);
        check.says("THE TRACE's i-th body. BAD.");
        x.act(5, 3, 1);
        for (int i : new int[] {-1, due.length, 23, 24, 25, MIN, MAX}) {
            check.due("trace " + i, x.trace(i), -1);
        }
        check.due("of none", new BeesSting().trace(0), -1);
    }

    private static void shelves() {
        check.says("SHELVES 0 .. 5 each hold nothing (at first), a BODY, or a ROW");
        BeesSting x = oneOfEach();
        for (int shelf = -1; shelf <= 6; shelf++) {
            boolean is = shelf >= 0 && shelf < 6;
            check.due("nothing on " + shelf, x.taken(shelf, 0), is ? -11 : -1);
            check.due("a body on " + shelf, x.keep(shelf, 1), is ? 1 : -1);
            check.due("it is on " + shelf, x.taken(shelf, 0), is ? 1 : -1);
            check.due("a row on " + shelf, x.row(shelf, 2, 3), is ? 1 : -1);
            check.due("put on " + shelf, x.put(shelf, 2, 9), is ? 1 : -1);
            check.due("element on " + shelf, x.element(shelf, 2), is ? 9 : REFUSED);
        }
        for (int shelf : new int[] {MIN, MAX}) {
            check.due("keep " + shelf, x.keep(shelf, 0), -1);
            check.due("row " + shelf, x.row(shelf, 0, 0), -1);
            check.due("put " + shelf, x.put(shelf, 0, 0), -1);
            check.due("element " + shelf, x.element(shelf, 0), REFUSED);
            check.due("taken " + shelf, x.taken(shelf, 0), -1);
            check.due("shift from " + shelf, x.shift(shelf, 0, 0, 0, 0), -1);
            check.due("shift to " + shelf, x.shift(0, 0, shelf, 0, 0), -1);
        }
    }

    private static void keep() {
        check.says("A SHELF holds nothing (body -1), or a BODY: 1. BAD.");
        BeesSting x = oneOfEach();
        for (int body : new int[] {-2, 8, 50, MIN, MAX}) {
            check.due("body " + body, x.keep(0, body), -1);
        }
        check.due("nothing is there yet", x.taken(0, 0), -11);
        check.due("the first", x.keep(0, 0), 1);
        check.due("the last", x.keep(0, 7), 1);
        check.due("it is there", x.taken(0, 7), 7);
        check.due("nothing", x.keep(0, -1), 1);
        check.due("nothing is there", x.taken(0, 7), -11);
        check.due("nothing again", x.keep(0, -1), 1);
        check.due("without bodies", new BeesSting().keep(0, 0), -1);
        check.due("nothing without bodies", new BeesSting().keep(0, -1), 1);
    }

    private static void rows() {
        check.says("A SHELF holds a ROW: 1. BAD (sort, n above 60); -14.");
        BeesSting x = new BeesSting();
        for (int sort : new int[] {-1, 5, MIN, MAX}) {
            check.due("sort " + sort, x.row(0, sort, 1), -1);
            check.due("sort " + sort + ", below 0", x.row(0, sort, -1), -1);
        }
        for (int n : new int[] {61, MAX}) {
            check.due("n " + n, x.row(0, 0, n), -1);
        }
        for (int n : new int[] {-1, MIN}) {
            check.due("n " + n, x.row(0, 0, n), -14);
            check.due("n " + n + " on no shelf", x.row(6, 0, n), -1);
        }
        check.due("none was laid", x.element(0, 0), REFUSED);
        check.due("none was laid", x.put(0, 0, 0), -11);
        check.says("of 0 bytes, 1 shorts, 2 ints, 3 longs, 4 booleans, of 0 .. 60 elements, 0 at first (false)");
        for (int sort = 0; sort <= 4; sort++) {
            check.due("60 of " + sort, x.row(0, sort, 60), 1);
            for (int i = 0; i < 60; i += 59) {
                check.due("0 at first", x.element(0, i), 0);
                check.due("put", x.put(0, i, 1), 1);
                check.due("1 then", x.element(0, i), 1);
            }
            check.due("no 60th", x.put(0, 60, 1), -13);
            check.due("again", x.row(0, sort, 1), 1);
            check.due("0 at first again", x.element(0, 0), 0);
            check.due("no first", x.put(0, 1, 1), -13);
            check.due("of none", x.row(0, sort, 0), 1);
            check.due("no 0th", x.put(0, 0, 1), -13);
        }
    }

    private static void put() {
        check.says("Element i of a ROW becomes v: 1. BAD, -11, -12, -13.");
        BeesSting x = oneOfEach();
        x.keep(1, 0);
        x.row(2, 3, 2);
        for (int i : new int[] {-1, 0, 2, MIN, MAX}) {
            check.due("on no shelf, " + i, x.put(6, i, 1), -1);
            check.due("on nothing, " + i, x.put(0, i, 1), -11);
            check.due("on a body, " + i, x.put(1, i, 1), -12);
            check.due("on a row, " + i, x.put(2, i, 1), i == 0 ? 1 : -13);
        }
        check.due("the last", x.put(2, 1, Long.MAX_VALUE), 1);
        check.due("it is", x.element(2, 1), Long.MAX_VALUE);
        check.due("the body is there", x.taken(1, 0), 0);
    }

    private static void lowestBits() {
        check.says("what is put in keeps its lowest bits (a boolean: whether it is not 0; 1 or 0)");
        BeesSting x = new BeesSting();
        long[] values = {0, 1, -1, 127, 128, -128, -129, 255, 256, 32767, 32768, -32768, -32769, 65536, MAX, MAX + 1L, MIN,
            MIN - 1L, 1L << 32, 1L << 40, Long.MAX_VALUE, Long.MIN_VALUE};
        for (int sort = 0; sort <= 4; sort++) {
            x.row(sort, sort, 1);
            for (long v : values) {
                x.put(sort, 0, v);
                long due = sort == 0 ? (byte) v : sort == 1 ? (short) v : sort == 2 ? (int) v : v;
                check.due(v + " of sort " + sort, x.element(sort, 0), sort < 4 ? due : v == 0 ? 0 : 1);
            }
        }
    }

    private static void element() {
        check.says("Element i of a ROW; Long.MIN_VALUE: BAD, -11 to -13.");
        BeesSting x = oneOfEach();
        x.keep(1, 0);
        Check.row(x, 2, 3, 5, 6);
        for (int i : new int[] {-1, 0, 1, 2, MIN, MAX}) {
            check.due("on no shelf, " + i, x.element(-1, i), REFUSED);
            check.due("on nothing, " + i, x.element(0, i), REFUSED);
            check.due("on a body, " + i, x.element(1, i), REFUSED);
            check.due("on a row, " + i, x.element(2, i), i == 0 || i == 1 ? 5 + i : REFUSED);
        }
    }

    private static void shift() {
        check.says("n elements of a ROW from i on come to another one (or the same) from j on, as they all were before: n.");
        for (int i = 0; i <= 5; i++) {
            for (int j = 0; j <= 5; j++) {
                for (int n = 0; n <= 5; n++) {
                    sameRow(i, j, n);
                }
            }
        }
        BeesSting x = new BeesSting();
        x.row(0, 3, 60);
        x.row(1, 3, 60);
        for (int i = 0; i < 60; i++) {
            x.put(0, i, i + 1L);
        }
        check.due("all 60", x.shift(0, 0, 1, 0, 60), 60);
        check.due("the first", x.element(1, 0), 1);
        check.due("the last", x.element(1, 59), 60);
        check.due("none, behind the last", x.shift(0, 60, 1, 60, 0), 0);
        check.due("61", x.shift(0, 0, 1, 0, 61), -13);
    }

    private static void sameRow(int i, int j, int n) {
        BeesSting x = new BeesSting();
        long[] row = {10, 11, 12, 13, 14};
        Check.row(x, 0, 2, row);
        boolean fits = i + n <= 5 && j + n <= 5;
        check.due("shift " + i + " " + j + " " + n, x.shift(0, i, 0, j, n), fits ? n : -13);
        for (int at = 0; at < 5; at++) {
            boolean came = fits && at >= j && at < j + n;
            check.due("element " + at + " behind " + i + " " + j + " " + n, x.element(0, at), came ? row[at - j + i] : row[at]);
        }
    }

    private static void shiftRefuses() {
        check.says("BAD, -11 (either), -12 (no ROWS, or of unlike sorts), -13 (n below 0, too).");
        BeesSting x = oneOfEach();
        x.row(0, 2, 4);
        x.row(1, 2, 2);
        x.row(2, 3, 4);
        x.keep(3, 0);
        int[][] places = {{-1, 0, 1}, {0, -1, 1}, {0, 0, -1}, {0, 0, 3}, {4, 0, 1}, {3, 0, 2}, {0, 2, 1}, {0, 1, 2}, {5, 0, 0},
            {0, 3, 0}, {MAX, 0, 1}, {0, MAX, 1}, {1, 1, MAX}, {MAX, MAX, MAX}, {MIN, 0, 1}, {0, MIN, 1}, {0, 0, MIN}};
        for (int[] p : places) {
            check.due("a place that is not there", x.shift(0, p[0], 1, p[1], p[2]), -13);
            check.due("unlike sorts first", x.shift(0, p[0], 2, p[1], p[2]), -12);
            check.due("a body first", x.shift(0, p[0], 3, p[1], p[2]), -12);
            check.due("a body first", x.shift(3, p[0], 0, p[1], p[2]), -12);
            check.due("nothing first", x.shift(4, p[0], 3, p[1], p[2]), -11);
            check.due("nothing first", x.shift(3, p[0], 4, p[1], p[2]), -11);
            check.due("nothing twice", x.shift(4, p[0], 4, p[1], p[2]), -11);
            check.due("no shelf first", x.shift(-1, p[0], 4, p[1], p[2]), -1);
            check.due("no shelf first", x.shift(4, p[0], 6, p[1], p[2]), -1);
        }
        check.due("a body twice", x.shift(3, 0, 3, 0, 0), -12);
        check.due("none, at the ends", x.shift(0, 4, 1, 2, 0), 0);
    }

    private static void shiftAlike() {
        check.says("(no ROWS, or of unlike sorts)");
        BeesSting x = new BeesSting();
        for (int from = 0; from <= 4; from++) {
            for (int to = 0; to <= 4; to++) {
                Check.row(x, 0, from, 1);
                x.row(1, to, 1);
                check.due("from " + from + " to " + to, x.shift(0, 0, 1, 0, 1), from == to ? 1 : -12);
                check.due("what came", x.element(1, 0), from == to ? 1 : 0);
            }
        }
    }

    private static void taken() {
        check.says("What a SHELF holds, taken for a BODY of KIND k (0 .. 7), or under it: its KIND. BAD, -11, -12.");
        BeesSting x = oneOfEach();
        for (int k : new int[] {-1, 8, MIN, MAX}) {
            check.due("k " + k + " of nothing", x.taken(0, k), -1);
        }
        check.due("nothing", x.taken(0, 0), -11);
        for (int sort = 0; sort <= 4; sort++) {
            x.row(0, sort, 9);
            for (int k = 0; k <= 7; k++) {
                check.due("a row for " + k, x.taken(0, k), -12);
            }
        }
        // each kind, and those it may be taken for
        String[] under = {"0", "10", "20", "320", "410", "5320", "60", "760"};
        for (int kind = 0; kind <= 7; kind++) {
            x.keep(0, kind);
            for (int k = 0; k <= 7; k++) {
                check.due(kind + " for " + k, x.taken(0, k), under[kind].indexOf('0' + k) >= 0 ? kind : -12);
            }
        }
    }

    private static void counts() {
        check.says("4 bodies that ran in the latest act() (all, kept or not). BAD.");
        BeesSting x = oneOfEach();
        for (int what : new int[] {-1, 5, MIN, MAX}) {
            check.due("what " + what, x.count(what), -1);
        }
        check.due("none ran", x.count(4), 0);
        x.act(5, 3, 0);
        check.due("ten ran", x.count(4), 10);
        check.says("How many: 0 PEOPLE, 1 bytes on THE TAPE, 2 changes that may be UNDONE, 3 BODIES");
        for (int i = 0; i < 8; i++) {
            check.due("people", x.count(0), i);
            x.person(0);
        }
        x.person(0);
        check.due("people when full", x.count(0), 8);
        for (int i = 0; i < 120; i++) {
            x.feed('1');
        }
        x.feed('1');
        check.due("the tape when full", x.count(1), 120);
        x.law();
        check.due("the tape when it was taken", x.count(1), 0);
        x.mend(0, 0, 1);
        x.mend(0, 0, 2);
        x.undo();
        check.due("changes", x.count(2), 1);
        check.due("bodies", x.count(3), 8);
    }

    private static void constants() {
        check.says("VOID is -2000000000.");
        check.due("VOID", BeesSting.VOID, -2000000000);
        check.says("BAD = -1, NOT = -2, FULL = -3, STATE = -5, VOID = -2000000000;");
        check.due("BAD", BeesSting.BAD, -1);
        check.due("NOT", BeesSting.NOT, -2);
        check.due("FULL", BeesSting.FULL, -3);
        check.due("STATE", BeesSting.STATE, -5);
    }
}
