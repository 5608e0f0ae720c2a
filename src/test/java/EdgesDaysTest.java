/** The sentences of the document that name an edge: a saying's flight and sting, term 2, promises 9 to 15. */
public final class EdgesDaysTest {
    private static final int MIN = Integer.MIN_VALUE, MAX = Integer.MAX_VALUE;
    private static final Check check = new Check("EdgesDaysTest");

    public static void main(String[] args) {
        hour();
        mile();
        pace();
        stings();
        dayRow();
        firstSayings();
        refusedShelves();
        day();
        stung();
        reach();
        soon();
        passOn();
        passOnRefuses();
        orders();
        likeOrders();
        stand();
        standByOthers();
        check.end();
    }

    private static BeesSting loudParish(int... cells) {
        BeesSting x = Check.parish(cells);
        Check.law(x, "1");
        return x;
    }

    private static void hour() {
        check.says("each takes an hour (HOUR goes on, round the day)");
        BeesSting x = Check.parish(0);
        x.mend(0, 6, 22);
        x.say(0, 0);
        check.due("22 goes on", x.of(0, 6), 23);
        x.say(0, 1);
        check.due("23 goes round", x.of(0, 6), 0);
        for (int i = 0; i < 24; i++) {
            x.say(0, 0);
        }
        check.due("24 hours", x.of(0, 6), 0);
        Check.bytes(x, 0, 1, 1, 1);
        x.mend(0, 6, 23);
        Check.law(x, "h=0");
        check.due("round the day in thought, too", x.day(0, 24, 2), 2);
        check.due("it does not go on by that", x.of(0, 6), 23);
    }

    private static void mile() {
        check.says("if there is a LIAR within a MILE of it (X and Y apart together)");
        int[] cells = {0x08, 0x80, 0x44, 0x17, 0x09, 0x90, 0x54, 0x18};
        for (int i = 0; i < cells.length; i++) {
            BeesSting x = loudParish(cells[i]);
            x.say(0, 1);
            check.due("flies to " + cells[i], x.led(6) != 0 ? 1 : 0, i < 4 ? 1 : 0);
        }
        check.says("If he is farther, it stays.");
        BeesSting x = loudParish(0x09);
        for (int i = 0; i < 3; i++) {
            check.due("nobody is stung", x.say(0, 1 - i % 2), -2);
            check.due("the swarm", x.led(6), 0);
            check.due("the liar", x.led(5), 0);
        }
        x.go(0, 0x08);
        x.say(0, 0);
        check.due("it flies once he is near", x.led(6), 4);
        x.go(0, 0x0D);
        x.say(0, 0);
        check.due("it stays once he is far again", x.led(6), 4);
        check.says("The swarm flies, if he is within a MILE of it as it stands ahead of that.");
        x.go(0, 0x0C);
        x.say(0, 0);
        check.due("just within", x.led(6), 8);
        check.says("THE LIAR (the latest); another one does not.");
        BeesSting y = Check.parish(0x0F, 0xF0);
        Check.law(y, "c>6");
        y.mend(0, 1, 7);
        y.say(0, 1);
        y.say(1, 1);
        check.due("one that is not loud leaves him", y.led(5), 0);
        y.mend(1, 1, 7);
        y.say(1, 1);
        check.due("a loud one does not", y.led(5), 1);
        check.says("A true SAYING leaves THE LIAR as he is.");
        y.say(0, 0);
        check.due("another's", y.led(5), 1);
        y.say(1, 0);
        check.due("his own", y.led(5), 1);
    }

    private static void pace() {
        check.says("flies PACE CELLS nearer to him (along X, then along Y)");
        int[][] flights = {{0x33, 1, 0x01}, {0x33, 2, 0x02}, {0x33, 3, 0x03}, {0x33, 4, 0x13}, {0x33, 5, 0x23}, {0x33, 6, 0x33},
            {0x33, 9, 0x33}, {0x30, 2, 0x20}, {0x30, 3, 0x30}, {0x30, 4, 0x30}, {0x03, 2, 0x02}, {0x03, 9, 0x03}};
        for (int[] one : flights) {
            BeesSting x = loudParish(one[0]);
            x.mend(0, 7, one[1]);
            int stung = x.say(0, 1);
            check.due("to " + one[0] + " by " + one[1], x.led(6), one[2]);
            check.due("stung in " + one[0], stung, one[0] == one[2] ? 0 : -2);
            // the same way back: from cell 255 it is as far to where X and Y are as much less than 15
            BeesSting y = loudParish(255 - one[0]);
            y.mend(0, 7, one[1]);
            y.mend(0, 4, 255);
            y.say(0, 1);
            check.due("back to " + (255 - one[0]) + " by " + one[1], y.led(6), 255 - one[2]);
        }
        check.says("PACE in all, what X leaves of it along Y");
        BeesSting x = loudParish(0x61);
        x.say(0, 1);
        check.due("1 along X, 3 along Y", x.led(6), 0x31);
        x.say(0, 0);
        check.due("3 more would do", x.led(6), 0x61);
        check.due("and stung him", x.led(3), 1);
    }

    private static void stings() {
        check.says("his PADS are one less (0 at least), and, if they were 0, it HURTS");
        BeesSting x = loudParish(0);
        x.mend(0, 2, 2);
        int[] pads = {1, 0, 0, 0};
        for (int i = 0; i < 4; i++) {
            check.due("stung", x.say(0, 1), 0);
            check.due("pads", x.of(0, 2), pads[i]);
            check.due("hurts", x.led(4), Math.max(0, i - 1));
            check.due("stings", x.led(3), i + 1);
        }
        check.says("he is THE LIAR no more (nobody is)");
        check.due("the liar", x.led(5), -2);
        check.due("not stung again", x.say(0, 0), -2);
        check.due("stings", x.led(3), 4);
        check.says("it STINGS also if it was in his CELL already");
        check.due("in his cell already", x.say(0, 1), 0);
        BeesSting y = loudParish(0x0F, 0x00);
        y.say(0, 1);
        y.go(0, 0);
        check.due("he who comes into its cell", y.say(1, 0), 0);
    }

    private static void dayRow() {
        check.says("A DAY: a ROW of bytes on a SHELF: SAYINGS, one behind the other: 2 times who, and 1, if it is a lie (24 at most; "
            + "it ends with what is none).");
        BeesSting x = loudParish(0, 0);
        for (int none : new int[] {4, 5, 127, -1, -2, -128, 128, 255}) {
            Check.bytes(x, 0, 1, 3, none, 1);
            check.due("ends with " + none, x.day(0, 24, 2), 3);
            Check.bytes(x, 0, none, 1);
            check.due("ends at once with " + none, x.day(0, 24, 2), 0);
        }
        Check.bytes(x, 0, 256 + 3);
        check.due("a byte has its lowest bits", x.stung(0, 24, 1, 0), 1);
        x.row(0, 0, 0);
        check.due("no sayings", x.day(0, 24, 1), 0);
        check.says("Of a row of more than 24 the first 24.");
        for (int size : new int[] {23, 24, 25, 60}) {
            long[] lies = new long[size];
            java.util.Arrays.fill(lies, 1);
            Check.bytes(x, 0, lies);
            check.due("lies of " + size, x.day(0, 24, 2), (1 << Math.min(24, size)) - 1);
            check.due("stings of " + size, x.stung(0, 24, 0, 0), Math.min(24, size));
        }
        long[] late = new long[60];
        late[23] = 1;
        late[24] = 3;
        late[25] = 3;
        Check.bytes(x, 0, late);
        check.due("the 24th", x.stung(0, 24, 0, 2), 23);
        check.due("no 25th", x.stung(0, 24, 1, 0), 0);
        check.due("nor in a stand", x.stand(0, 1, 1), 256);
    }

    private static void firstSayings() {
        check.says("behind the first n SAYINGS of a DAY (all, if there are fewer)");
        BeesSting x = loudParish(0);
        Check.bytes(x, 0, 1, 0, 1, 1, 9, 1);
        int[] times = {0, 1, 1, 2, 3, 3, 3};
        int[] bits = {0, 1, 1, 5, 13, 13, 13};
        for (int n = 0; n <= 6; n++) {
            check.due("stung behind " + n, x.stung(0, n, 0, 0), times[n]);
            check.due("loud behind " + n, x.day(0, n, 2), bits[n]);
        }
        check.due("stung behind 24", x.stung(0, 24, 0, 0), 3);
        check.due("loud behind 24", x.day(0, 24, 2), 13);
        check.says("IN THOUGHT: PADS are used up, THE LIAR, the swarm, HOUR begin as now.");
        BeesSting y = loudParish(0x08, 0x0F);
        y.mend(0, 2, 1);
        y.say(0, 1);
        Check.bytes(y, 0, 2, 1);
        check.due("the swarm now", y.day(0, 0, 1), 4);
        check.due("the liar now", y.day(0, 0, 0), 0);
        check.due("stung at first", y.stung(0, 24, 0, 2), 0);
        check.due("twice", y.stung(0, 24, 0, 0), 2);
        check.due("and hurt, without pads", y.stung(0, 24, 0, 1), 1);
        check.due("not in deed", y.of(0, 2), 1);
        Check.law(y, "h=10");
        check.due("the hour now is 9", y.day(0, 24, 2), 2);
        check.due("it is still", y.of(0, 6), 9);
    }

    private static void refusedShelves() {
        check.says("(a ROW of bytes on a SHELF; BAD, -11, -12; n 0 .. 24)");
        BeesSting x = loudParish(0);
        x.body(0);
        x.keep(0, 0);
        for (int sort = 1; sort <= 4; sort++) {
            x.row(sort, sort, 3);
        }
        int[][] shelves = {{-1, -1}, {6, -1}, {MIN, -1}, {MAX, -1}, {0, -12}, {1, -12}, {2, -12}, {3, -12}, {4, -12}, {5, -11}};
        for (int[] one : shelves) {
            check.due("day " + one[0], x.day(one[0], 0, 0), one[1]);
            check.due("stung " + one[0], x.stung(one[0], 0, 0, 0), one[1]);
            check.due("passOn " + one[0], x.passOn(one[0], 0, 0), one[1]);
            check.due("orders " + one[0], x.orders(one[0], -1), one[1]);
            check.due("stand " + one[0], x.stand(one[0], 0, 0), one[1]);
        }
        x.row(5, 0, 3);
        for (int n : new int[] {-1, 25, MIN, MAX}) {
            check.due("day of " + n, x.day(5, n, 0), -1);
            check.due("stung of " + n, x.stung(5, n, 0, 0), -1);
        }
        check.due("day of 0", x.day(5, 0, 0), -2);
        check.due("day of 24", x.day(5, 24, 0), -2);
        check.says("Answers, of several the one named first: BAD (-1)");
        for (int shelf : new int[] {0, 1}) {
            check.due("day", x.day(shelf, 25, 0), -1);
            check.due("day", x.day(shelf, 0, 3), -1);
            check.due("stung", x.stung(shelf, 0, 1, 0), -1);
            check.due("passOn", x.passOn(shelf, 1, 0), -1);
            check.due("orders", x.orders(shelf, -3), -1);
            check.due("stand", x.stand(shelf, 0, 2), -1);
        }
    }

    private static void day() {
        check.says("THE LIAR (what 0; NOT), where the swarm is (1), LOUD lies (2: bits).");
        BeesSting x = loudParish(0, 0x0F);
        Check.bytes(x, 0, 0, 3, 1);
        int[][] due = {{-2, 0, 0}, {-2, 0, 0}, {1, 0, 2}, {-2, 0, 6}};
        for (int n = 0; n < 4; n++) {
            for (int what = 0; what < 3; what++) {
                check.due("behind " + n + ", " + what, x.day(0, n, what), due[n][what]);
            }
        }
        for (int what : new int[] {-1, 3, MIN, MAX}) {
            check.due("what " + what, x.day(0, 0, what), -1);
        }
        check.due("of nobody's day", new BeesSting().day(0, 0, 0), -11);
    }

    private static void stung() {
        check.says("How often one was STUNG (what 0), it HURT (1), the first SAYING (2; NOT).");
        BeesSting x = loudParish(0, 0, 0x0F);
        x.mend(1, 2, 1);
        Check.bytes(x, 0, 1, 3, 3, 5);
        int[][] due = {{1, 1, 0}, {2, 1, 1}, {0, 0, -2}};
        for (int one = 0; one < 3; one++) {
            for (int what = 0; what < 3; what++) {
                check.due("of " + one + ", " + what, x.stung(0, 24, one, what), due[one][what]);
            }
        }
        for (int bad : new int[] {-1, 3, 8, MIN, MAX}) {
            check.due("one " + bad, x.stung(0, 24, bad, 0), -1);
            check.due("what " + bad, x.stung(0, 24, 0, bad), -1);
        }
        check.says("STUNG, the first: this one.");
        check.due("not whoever is", x.stung(0, 24, 1, 2), 1);
        check.due("nobody in 0", x.stung(0, 0, 0, 2), -2);
    }

    private static void reach() {
        check.says("Whom it would reach now: bits.");
        BeesSting x = new BeesSting();
        check.due("nobody", x.reach(), 0);
        for (int i = 0; i < 8; i++) {
            x.person(i * 16 + i);
        }
        check.due("those within 8", x.reach(), 31);
        x.mend(0, 5, 7);
        check.due("those within 7", x.reach(), 15);
        x.mend(0, 5, 20);
        check.due("all of them", x.reach(), 255);
        x.mend(0, 5, 1);
        check.due("who is in its cell", x.reach(), 1);
        x.mend(0, 4, 255);
        check.due("nobody near", x.reach(), 0);
    }

    private static void soon() {
        check.says("(0: at once behind it; NOT: not by 24)");
        BeesSting x = loudParish(0);
        x.mend(0, 5, 20);
        x.mend(0, 7, 1);
        for (int far = 0; far <= 21; far++) {
            x.go(0, far <= 15 ? far : 15 + 16 * (far - 15));
            check.due("from " + far, x.soon(0), far > 20 ? -2 : Math.max(0, far - 1));
        }
        check.says("BAD; NOT (a lie that is not LOUD, too).");
        for (int one : new int[] {-1, 1, 8, MIN, MAX}) {
            check.due("one " + one, x.soon(one), -1);
        }
        x.go(0, 0);
        Check.law(x, "0");
        check.due("not loud", x.soon(0), -2);
        x.go(0, 3);
        Check.law(x, "1");
        x.say(0, 1);
        check.due("stung behind 1", x.soon(0), 1);
        Check.law(x, "0");
        check.due("not loud, though he is the liar", x.soon(0), -2);
        check.due("and not when he is BAD", x.soon(1), -1);
        check.due("nothing is led", x.led(0), 1);
    }

    private static void passOn() {
        check.says("soon(), PASS ON: 0 at once; 24 also behind the 24th; one himself is not looked at; LOUD with n by the DAY's lies.");
        BeesSting x = loudParish(0, 0, 0x0F);
        x.row(0, 0, 0);
        check.due("not at all is best", x.passOn(0, 0, 0), 2);
        check.due("24", x.passOn(0, 0, 1), 24);
        check.due("himself is not looked at", x.passOn(0, 2, 0), 0);
        check.due("at once", x.passOn(0, 2, 1), 0);
        check.due("of like ones the least", x.passOn(0, 2, 0), 0);
        Check.law(x, "n=2");
        Check.bytes(x, 0, 1, 1);
        check.due("n is 2", x.passOn(0, 0, 0), 2);
        Check.bytes(x, 0, 1, 0, 1);
        check.due("n is 2, and lies alone", x.passOn(0, 0, 0), 2);
        Check.bytes(x, 0, 1, 1, 1);
        check.due("n is 3", x.passOn(0, 0, 0), -2);
        Check.law(x, "c=7");
        x.mend(1, 1, 7);
        check.due("only a loud one", x.passOn(0, 0, 0), 1);
        check.due("only himself is loud", x.passOn(0, 1, 0), -2);
        check.due("only himself is loud", x.passOn(0, 1, 1), -2);
        check.says("(one is THE LIAR behind the DAY, whoever it was): who (what 0), behind how many (1). NOT.");
        Check.law(x, "1");
        Check.bytes(x, 0, 5);
        check.due("another was", x.passOn(0, 0, 0), 2);
        check.due("he himself was", x.passOn(0, 2, 0), 0);
        check.due("what 2", x.passOn(0, 0, 2), -1);
        check.due("what -1", x.passOn(0, 0, -1), -1);
        for (int one : new int[] {-1, 3, 8, MIN, MAX}) {
            check.due("one " + one, x.passOn(0, one, 0), -1);
        }
    }

    private static void passOnRefuses() {
        check.says("NOT: there is no other one whose lie is LOUD.");
        BeesSting x = loudParish(0);
        x.row(0, 0, 0);
        check.due("there is no other one", x.passOn(0, 0, 0), -2);
        check.due("there is no other one", x.passOn(0, 0, 1), -2);
        x.person(255);
        check.due("there is one", x.passOn(0, 0, 0), 1);
        Check.law(x, "0");
        check.due("his lie is not loud", x.passOn(0, 0, 0), -2);
        check.says("so that he himself is STUNG latest, if all behind it is true (24 SAYINGS; not at all is best)");
        BeesSting y = loudParish(0x20, 0x01, 0x05, 0x06, 0x04);
        y.mend(0, 7, 1);
        y.row(0, 0, 0);
        check.due("who", y.passOn(0, 0, 0), 3);
        check.due("behind 5", y.passOn(0, 0, 1), 5);
        check.due("who else", y.passOn(0, 3, 0), 2);
        check.due("behind 4", y.passOn(0, 3, 1), 4);
    }

    private static void orders() {
        check.says("(7 at most, else STATE)");
        BeesSting x = loudParish(0);
        for (int size : new int[] {6, 7, 8, 24, 60}) {
            x.row(0, 0, size);
            check.due("how often of " + size, x.orders(0, -1), size > 7 ? -5 : 0);
            check.due("quiet of " + size, x.orders(0, -2), size > 7 ? -5 : size == 7 ? 5040 : 720);
            check.due("the first of " + size, x.orders(0, 0), size > 7 ? -5 : 0);
        }
        Check.bytes(x, 0, 0, 0, 0, 0, 0, 0, 0, 2, 0);
        check.due("7 that count", x.orders(0, 6), 6);
        check.says("ORDERS of no SAYINGS: 0, QUIET 1.");
        x.row(0, 0, 0);
        check.due("0", x.orders(0, -1), 0);
        check.due("QUIET 1", x.orders(0, -2), 1);
        Check.bytes(x, 0, 2, 0, 0);
        check.due("0, by what is none", x.orders(0, -1), 0);
        check.due("QUIET 1, by what is none", x.orders(0, -2), 1);
        check.due("no first", x.orders(0, 0), -2);
        check.says("how often (k -1), the k-th (NOT: there are not as many), QUIET (k -2). STATE.");
        Check.bytes(x, 0, 0, 1);
        check.due("the last", x.orders(0, 1), 1);
        check.due("not as many", x.orders(0, 2), -2);
        check.due("not as many", x.orders(0, 7), -2);
        check.due("not as many", x.orders(0, MAX), -2);
        check.due("k -3", x.orders(0, -3), -1);
        check.due("k MIN", x.orders(0, MIN), -1);
    }

    private static void likeOrders() {
        check.says("ORDERS: HURTS of anybody; of like ones by places; QUIET: of all orders, like SAYINGS apart.");
        BeesSting x = loudParish(0, 0);
        Check.bytes(x, 0, 1, 1, 3);
        check.due("of anybody", x.orders(0, -1), 3);
        check.due("none is quiet", x.orders(0, -2), 0);
        for (int k = 0; k < 3; k++) {
            check.due("by places " + k, x.orders(0, k), k);
        }
        x.mend(0, 2, 9);
        x.mend(1, 2, 9);
        check.due("pads", x.orders(0, -1), 0);
        check.due("like sayings apart", x.orders(0, -2), 6);
        // a cell off, at a cell an hour, two ahead of the other: the one who lies last is not stung
        BeesSting y = loudParish(0x02, 0x20);
        y.mend(0, 7, 1);
        Check.bytes(y, 0, 1, 1, 3, 3);
        check.due("the fewest", y.orders(0, -1), 0);
        check.due("the first of these", y.orders(0, 0) * 1000 + y.orders(0, 1) * 100 + y.orders(0, 2) * 10 + y.orders(0, 3), 213);
        check.due("how many of these", y.orders(0, -2), quietOf(y));
    }

    /** How many orders of the four lies on shelf 0 hurt nobody, by days laid on shelf 1. */
    private static int quietOf(BeesSting y) {
        long[] said = {1, 1, 3, 3};
        int quiet = 0;
        for (int code = 0; code < 256; code++) {
            int used = 1 << (code & 3) | 1 << (code >> 2 & 3) | 1 << (code >> 4 & 3) | 1 << (code >> 6);
            if (used == 15) {
                Check.bytes(y, 1, said[code & 3], said[code >> 2 & 3], said[code >> 4 & 3], said[code >> 6]);
                quiet += y.stung(1, 24, 0, 1) + y.stung(1, 24, 1, 1) == 0 ? 1 : 0;
            }
        }
        return quiet;
    }

    private static void stand() {
        check.says("the least CELL in which one should stand so that he is never STUNG in a DAY, all else as it is: which; "
            + "in how many he could; NOT.");
        BeesSting x = loudParish(0);
        x.mend(0, 5, 20);
        x.mend(0, 7, 9);
        Check.bytes(x, 0, 1, 0, 0);
        check.due("21 off", x.stand(0, 0, 0), 0x6F);
        check.due("in how many", x.stand(0, 0, 1), 55);
        check.says("STAND: CELLS 0 to 255");
        x.mend(0, 5, 15);
        x.mend(0, 4, 0x77);
        check.due("cell 255 alone", x.stand(0, 0, 0), 255);
        check.due("cell 255 alone", x.stand(0, 0, 1), 1);
        x.mend(0, 4, 0x88);
        check.due("cell 0 alone", x.stand(0, 0, 0), 0);
        check.due("cell 0 alone", x.stand(0, 0, 1), 1);
        x.mend(0, 5, 16);
        check.due("nowhere", x.stand(0, 0, 0), -2);
        check.due("nowhere", x.stand(0, 0, 1), 0);
        x.row(0, 0, 0);
        check.due("everywhere, if nothing is said", x.stand(0, 0, 0), 0);
        check.due("everywhere, if nothing is said", x.stand(0, 0, 1), 256);
        check.due("he stands where he stood", x.of(0, 0), 0);
        check.due("the swarm is where it was", x.led(6), 0x88);
        for (int bad : new int[] {-1, 2, 8, MIN, MAX}) {
            check.due("one " + bad, x.stand(0, bad, 0), -1);
            check.due("what " + bad, x.stand(0, 0, bad), -1);
        }
    }

    private static void standByOthers() {
        check.says("k and d of others by it");
        // his lie is always loud; the other one's, if he stands within a mile of that one, draws the swarm off
        BeesSting x = Check.parish(0, 6);
        x.mend(0, 1, 12);
        x.mend(0, 5, 3);
        x.mend(0, 7, 1);
        Check.law(x, "c=12|k=2");
        long[] said = new long[24];
        said[0] = 1;
        said[1] = 3;
        Check.bytes(x, 0, said);
        check.due("within a mile of both", x.stand(0, 0, 0), 3);
        check.due("and beyond a mile of the swarm", x.stand(0, 0, 1), 247);
        // the other one's lie is loud only if the swarm, led by the first, has come near
        Check.law(x, "c=12|d<6");
        check.due("near enough for the other one", x.stand(0, 0, 1), standsByHand(x));
    }

    /** In how many cells 0 could stand, by going there. */
    private static int standsByHand(BeesSting x) {
        int many = 0;
        int stood = x.of(0, 0);
        for (int cell = 0; cell < 256; cell++) {
            BeesSting y = Check.parish(cell, 6);
            y.mend(0, 1, 12);
            y.mend(0, 5, 3);
            y.mend(0, 7, 1);
            Check.law(y, "c=12|d<6");
            int stings = 0;
            for (int i = 0; i < 24; i++) {
                stings += y.say(i == 1 ? 1 : 0, i < 2 ? 1 : 0) == 0 ? 1 : 0;
            }
            many += stings == 0 ? 1 : 0;
        }
        check.due("he stands where he stood", x.of(0, 0), stood);
        return many;
    }
}
