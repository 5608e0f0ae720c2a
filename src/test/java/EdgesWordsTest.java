/** The sentences of the document that name an edge: terms 3 and 4 in thought, promises 16 to 20. */
public final class EdgesWordsTest {
    private static final int MIN = Integer.MIN_VALUE, MAX = Integer.MAX_VALUE;
    private static final Check check = new Check("EdgesWordsTest");

    public static void main(String[] args) {
        lastWord();
        lastWordTurns();
        lastWordStung();
        crier();
        keepNear();
        heard();
        heardRefuses();
        heardFits();
        heardNone();
        drawnLimits();
        drawnNobody();
        drawnBySeeds();
        weeks();
        check.end();
    }

    private static BeesSting loudParish(int... cells) {
        BeesSting x = Check.parish(cells);
        Check.law(x, "1");
        return x;
    }

    private static void lastWord() {
        check.says("(ab: 10 times the first one and the other, unlike)");
        BeesSting x = loudParish(0, 0, 0, 0, 0, 0, 0, 0);
        for (int ab = -12; ab <= 120; ab++) {
            boolean two = ab > 0 && ab < 78 && ab % 10 < 8 && ab / 10 != ab % 10;
            check.due("ab " + ab, x.lastWord(ab, 1, 0), two ? 0 : -1);
        }
        check.due("ab MIN", x.lastWord(MIN, 1, 0), -1);
        check.due("ab MAX", x.lastWord(MAX, 1, 0), -1);
        BeesSting y = loudParish(0, 0);
        for (int ab : new int[] {2, 20, 12, 21, 18, 0, 11}) {
            check.due("of two, ab " + ab, y.lastWord(ab, 1, 0), -1);
        }
        check.due("of two, ab 10", y.lastWord(10, 1, 0), 0);
        check.due("of one", loudParish(0).lastWord(1, 1, 0), -1);
        check.due("of nobody", new BeesSting().lastWord(1, 1, 0), -1);
        check.says("n times (1 .. 6), the first one first");
        for (int n : new int[] {0, 7, -1, MIN, MAX}) {
            check.due("n " + n, y.lastWord(1, n, 0), -1);
        }
        for (int n = 1; n <= 6; n++) {
            check.due("n " + n, y.lastWord(1, n, 0), 0);
        }
        for (int what : new int[] {-1, 2, MIN, MAX}) {
            check.due("what " + what, y.lastWord(1, 1, what), -1);
        }
    }

    private static void lastWordTurns() {
        check.says("then all is still for 4 hours (the swarm flies in these as behind true SAYINGS)");
        BeesSting x = loudParish(0, 255);
        x.mend(0, 5, 20);
        x.mend(0, 7, 1);
        x.say(0, 1);
        x.say(0, 1);
        check.due("stung in its cell", x.led(3), 2);
        x.go(0, 15);
        x.say(0, 1);
        check.due("one cell flown", x.led(6), 1);
        for (int n = 1; n <= 6; n++) {
            int reach = 1 + n + 4;
            x.go(0, reach);
            check.due("reached by " + n + " turns", x.lastWord(1, n, 0), 1);
            check.due("reached by " + n + " turns of the other's", x.lastWord(10, n, 0), 2);
            x.go(0, reach + 1);
            check.due("not reached by " + n + " turns", x.lastWord(1, n, 0), 0);
            check.due("of like ones to say nothing", x.lastWord(1, n, 1), 0);
        }
        check.due("nothing was said by it", x.led(0), 3);
        check.due("no hour went by it", x.of(0, 6), 11);
        check.says("(nothing takes an hour, too; it is as a true SAYING)");
        x.go(0, 2);
        check.due("stung in the first one's turn", x.lastWord(1, 1, 0), 1);
        check.due("what he does", x.lastWord(1, 1, 1), 0);
        x.go(0, 1);
        x.mend(0, 5, 1);
        check.due("in its cell already", x.lastWord(10, 6, 0), 2);
    }

    private static void lastWordStung() {
        check.says("THE LAST WORD: STUNG at any time of it.");
        BeesSting x = loudParish(0x09, 0x80, 0x0F);
        x.mend(0, 2, 9);
        x.mend(0, 5, 20);
        x.say(0, 1);
        check.due("near the first one", x.led(6), 4);
        check.due("in the second turn", x.lastWord(1, 6, 0), 1);
        check.due("pads do not help", x.of(0, 2), 9);
        check.due("of neither", x.lastWord(12, 6, 0), 0);
        check.says("THE LIAR as now.");
        check.due("the first one is the liar", x.lastWord(2, 1, 0), 1);
        check.due("the other one is the liar", x.lastWord(20, 1, 0), 2);
        x.say(0, 0);
        x.say(0, 0);
        check.due("nobody is", x.led(5), -2);
        check.due("nobody is", x.lastWord(1, 6, 0), 0);
        check.due("nobody lies for it", x.lastWord(1, 6, 1), 0);
        check.says("a lie that is not LOUD is as a true SAYING, but n is one more");
        Check.law(x, "n=1");
        x.mend(0, 4, 4);
        for (int n = 1; n <= 6; n++) {
            check.due("turns " + n, x.lastWord(1, n, 0), 0);
            check.due("turns " + n, x.lastWord(1, n, 1), 0);
        }
        check.due("n in deed is 1", x.led(1), 1);
    }

    private static void crier() {
        check.says("takes least PAY (of like ones the least; PADS above 0 take half, cut); what he takes; NOT.");
        BeesSting x = Check.parish(0, 0, 0);
        // pay, pads, what he takes
        int[][] pays = {{0, 0, 0}, {1, 0, 1}, {99, 0, 99}, {0, 1, 0}, {1, 1, 0}, {2, 1, 1}, {98, 1, 49}, {99, 1, 49}, {99, 9, 49}};
        x.mend(2, 3, 99);
        for (int[] one : pays) {
            x.mend(1, 3, one[0]);
            x.mend(1, 2, one[1]);
            check.due("takes of " + one[0] + " with " + one[1], x.crier(0, 1), one[2]);
            check.due("who", x.crier(0, 0), 1);
        }
        x.mend(2, 3, 49);
        check.due("of like ones the least", x.crier(0, 0), 1);
        x.mend(2, 3, 48);
        check.due("the cheapest", x.crier(0, 0), 2);
        x.mend(0, 3, 0);
        check.due("all but the told one", x.crier(0, 0), 2);
        check.due("the least of all", x.crier(1, 0), 0);
        x.mend(0, 4, 8);
        check.due("a mile off", x.crier(0, 0), 2);
        x.mend(0, 4, 9);
        check.due("more than a mile off", x.crier(0, 0), -2);
        check.due("more than a mile off", x.crier(0, 1), -2);
        check.due("alone", Check.parish(0).crier(0, 0), -2);
        check.due("alone", Check.parish(0).crier(0, 1), -2);
        check.says("who (what 0), what he takes (1). BAD; NOT.");
        for (int bad : new int[] {-1, 3, 8, MIN, MAX}) {
            check.due("one " + bad, x.crier(bad, 0), -1);
            check.due("what " + bad, x.crier(0, bad), -1);
        }
        check.due("what 2", x.crier(0, 2), -1);
        check.due("of nobody", new BeesSting().crier(0, 0), -1);
    }

    private static void keepNear() {
        check.says("KEEP NEAR. BAD; NOT.");
        BeesSting x = Check.parish(0);
        check.due("alone", x.keepNear(0), -2);
        for (int one : new int[] {-1, 1, 8, MIN, MAX}) {
            check.due("one " + one, x.keepNear(one), -1);
        }
        check.due("of nobody", new BeesSting().keepNear(0), -1);
        x.person(255);
        check.due("however far", x.keepNear(0), 1);
        check.due("however far", x.keepNear(1), 0);
        check.says("KEEP NEAR: the nearest, of like ones that with least CHEEK.");
        for (int i = 2; i < 8; i++) {
            x.person(i < 5 ? 0x05 : 0x50);
        }
        check.due("then by number", x.keepNear(0), 2);
        x.mend(7, 1, 5);
        check.due("with least cheek", x.keepNear(0), 7);
        x.mend(1, 1, 0);
        check.due("the nearest first", x.keepNear(0), 7);
        x.mend(4, 1, 5);
        check.due("then by number", x.keepNear(0), 4);
        check.due("in his cell", x.keepNear(4), 2);
    }

    private static void heard() {
        check.says("how many ways (what 0), the fewest (1; NOT), which (2; NOT), CERTAIN (3). BAD, -11, -12; STATE.");
        BeesSting x = loudParish(0);
        x.row(0, 0, 3);
        x.row(1, 0, 0);
        int[] due = {8, 0, 0, 0};
        for (int what = 0; what < 4; what++) {
            check.due("all ways, " + what, x.heard(0, 1, what), due[what]);
        }
        for (int bad : new int[] {-1, 6, MIN, MAX}) {
            check.due("day " + bad, x.heard(bad, 1, 0), -1);
            check.due("told " + bad, x.heard(0, bad, 0), -1);
        }
        for (int what : new int[] {-1, 4, MIN, MAX}) {
            check.due("what " + what, x.heard(0, 1, what), -1);
            check.due("what " + what + ", of missing ones", x.heard(4, 5, what), -1);
        }
        check.due("of no sayings", x.heard(1, 0, 0), 1);
        check.due("of no sayings, the fewest", x.heard(1, 0, 1), 0);
        check.due("of no sayings, which", x.heard(1, 0, 2), 0);
        check.due("of no sayings, certain", x.heard(1, 0, 3), 0);
        check.due("one row for both", x.heard(0, 0, 0), 8);
    }

    private static void heardRefuses() {
        check.says("-11 nothing is there where something is wanted; -12 it is of another kind");
        BeesSting x = loudParish(0);
        x.body(0);
        x.keep(1, 0);
        x.row(2, 1, 3);
        x.row(3, 4, 3);
        x.row(4, 0, 3);
        for (int other = 1; other <= 3; other++) {
            check.due("day on " + other, x.heard(other, 4, 0), -12);
            check.due("told on " + other, x.heard(4, other, 0), -12);
            check.due("-11 is named first, " + other, x.heard(other, 5, 0), -11);
            check.due("-11 is named first, " + other, x.heard(5, other, 0), -11);
        }
        check.due("no day", x.heard(5, 4, 0), -11);
        check.due("nothing told", x.heard(4, 5, 0), -11);
        check.due("neither", x.heard(5, 5, 0), -11);
        check.says("HEARD: what is above 8 or below 0 fits never; 12 by SAYINGS that count.");
        for (int size : new int[] {11, 12, 13, 24, 60}) {
            x.row(4, 0, size);
            x.row(5, 0, 0);
            check.due("of " + size, x.heard(4, 5, 0), size > 12 ? -5 : 1 << size);
            check.due("of " + size, x.heard(4, 5, 3), size > 12 ? -5 : 0);
        }
        x.put(4, 12, 2);
        check.due("12 that count", x.heard(4, 5, 0), 4096);
        x.put(4, 12, 0);
        x.put(4, 13, 2);
        check.due("13 that count", x.heard(4, 5, 0), -5);
        x.row(4, 0, 2);
        for (int seen : new int[] {0, 1, 7, 8, 9, 127, -1, -128}) {
            Check.bytes(x, 5, seen);
            check.due("seen " + seen, x.heard(4, 5, 0), seen == 0 ? 4 : 0);
        }
        x.mend(0, 4, 255);
        for (int seen : new int[] {0, 1, 7, 8, 9, 127, -1, -128}) {
            Check.bytes(x, 5, seen);
            check.due("seen far off " + seen, x.heard(4, 5, 0), seen == 8 ? 4 : 0);
        }
    }

    private static void heardFits() {
        check.says("(the least of PEOPLE in that CELL, 8: in nobody's; what lacks: any)");
        BeesSting x = loudParish(0x09, 0x04, 0x04);
        Check.bytes(x, 0, 2, 4);
        Check.bytes(x, 1, 1);
        check.due("the least in that cell", x.heard(0, 1, 0), 2);
        check.due("his lie is certain", x.heard(0, 1, 3), 1);
        Check.bytes(x, 1, 2);
        check.due("not another one in it", x.heard(0, 1, 0), 0);
        Check.bytes(x, 1, 8, 1);
        check.due("in nobody's, then there", x.heard(0, 1, 2), 2);
        Check.bytes(x, 1, 1, 1, 9, -1);
        check.due("what is told behind the day is not looked at", x.heard(0, 1, 0), 2);
        Check.bytes(x, 1);
        check.due("all lacks", x.heard(0, 1, 0), 4);
        check.says("(whatever the DAY says of it; all its whos stay; 12 at most, else STATE)");
        Check.bytes(x, 0, 3, 5);
        Check.bytes(x, 1, 8, 8);
        check.due("no lies, though the day says so", x.heard(0, 1, 2), 0);
        check.due("that is the only way", x.heard(0, 1, 0), 1);
        check.says("the fewest lies; by that one, which (bits; of like ones the least)");
        Check.bytes(x, 0, 2, 4);
        Check.bytes(x, 1, 1, 1);
        check.due("the fewest", x.heard(0, 1, 1), 1);
        check.due("which", x.heard(0, 1, 2), 1);
        check.due("one is certain", x.heard(0, 1, 3), 1);
        x.go(1, 0x08);
        x.go(2, 0x08);
        x.mend(0, 7, 8);
        Check.bytes(x, 0, 2, 4, 2);
        Check.bytes(x, 1);
        x.mend(0, 4, 0x08);
        check.due("any of three", x.heard(0, 1, 0), 8);
        x.mend(0, 4, 0);
        x.row(1, 0, 3);
        x.put(1, 0, 8);
        x.put(1, 1, 1);
        x.put(1, 2, 1);
        check.due("the second, and the third or not", x.heard(0, 1, 0), 2);
        check.due("the second alone", x.heard(0, 1, 2), 2);
    }

    private static void heardNone() {
        check.says("CERTAIN: which are lies in all those ways; 0 without any.");
        BeesSting x = loudParish(0x04);
        Check.bytes(x, 0, 0, 0, 0, 0);
        Check.bytes(x, 1, 0);
        check.due("the first in all", x.heard(0, 1, 3), 1);
        Check.bytes(x, 1, 8, 8, 8, 0);
        check.due("the last in all", x.heard(0, 1, 3), 8);
        Check.bytes(x, 1, 0, 8);
        int[] none = {0, -2, -2, 0};
        for (int what = 0; what < 4; what++) {
            check.due("without any, " + what, x.heard(0, 1, what), none[what]);
        }
        Check.law(x, "0");
        Check.bytes(x, 1, 8, 8, 8, 8);
        check.due("lies that are not loud", x.heard(0, 1, 0), 16);
        check.due("nothing is certain of them", x.heard(0, 1, 3), 0);
        Check.bytes(x, 1, 0);
        check.due("none is loud", x.heard(0, 1, 1), -2);
    }

    private static void drawnLimits() {
        check.says("DRAWN: n weeks (1 .. 30; each begins as all is now) of m SAYINGS (1 .. 40)");
        BeesSting x = loudParish(0);
        x.mend(0, 1, 12);
        for (int n = 0; n <= 32; n++) {
            for (int m : new int[] {0, 1, 40, 41, 99}) {
                boolean fits = n >= 1 && n <= 30 && m >= 1 && m <= 40;
                check.due("nm " + (100 * n + m), x.drawn(1, 100 * n + m, 0), fits ? n * m : -1);
            }
        }
        for (int nm : new int[] {-1, -101, -3040, MIN, MAX}) {
            check.due("nm " + nm, x.drawn(1, nm, 0), -1);
        }
        check.says("how often one is STUNG (one 0 on), HURTS (-1). BAD.");
        for (int one : new int[] {-2, 1, 8, MIN, MAX}) {
            check.due("one " + one, x.drawn(1, 101, one), -1);
        }
        check.due("one -1", x.drawn(1, 101, -1), 1);
        check.due("nothing is led by it", x.led(0), 0);
    }

    private static void drawnNobody() {
        check.says("by the (z >>> 8) % how many-th one, a lie, if (z >>> 16) % 12 is below his CHEEK");
        BeesSting none = new BeesSting();
        check.due("nobody is hurt of none", none.drawn(5, 3040, -1), 0);
        check.due("none is told of", none.drawn(5, 3040, 0), -1);
        check.due("m 0 of none", none.drawn(5, 100, -1), -1);
        BeesSting x = loudParish(0, 0);
        x.mend(0, 1, 0);
        x.mend(1, 1, 12);
        check.due("below 0 is none", x.drawn(5, 3040, 0), 0);
        int z = 5;
        int lies = 0;
        for (int i = 0; i < 1200; i++) {
            z = z * 1103515245 + 12345;
            lies += (z >>> 8) % 2;
        }
        check.due("below 12 is each", x.drawn(5, 3040, 1), lies);
    }

    private static void drawnBySeeds() {
        check.says("z = z * 1103515245 + 12345 (an int; SEED at first) ahead of each");
        for (int seed : new int[] {0, 1, -1, 7, 99, -12345, MIN, MAX}) {
            for (int people = 1; people <= 8; people++) {
                drawnAsSaid(seed, people);
            }
        }
    }

    /** The same week told by say(): each one's stings, and what hurt. */
    private static void drawnAsSaid(int seed, int people) {
        BeesSting x = new BeesSting();
        int[] cells = {0x00, 0x13, 0x20, 0x44, 0x35, 0x07, 0x71, 0x22};
        for (int i = 0; i < people; i++) {
            x.person(cells[i]);
            x.mend(i, 1, 3 + i);
            x.mend(i, 2, i % 3);
        }
        int[] drawn = new int[people + 1];
        for (int one = -1; one < people; one++) {
            drawn[one + 1] = x.drawn(seed, 140, one);
        }
        int[] stings = new int[people];
        int z = seed;
        for (int i = 0; i < 40; i++) {
            z = z * 1103515245 + 12345;
            int who = (z >>> 8) % people;
            int stung = x.say(who, (z >>> 16) % 12 < 3 + who ? 1 : 0);
            if (stung >= 0) {
                stings[stung]++;
            }
        }
        for (int one = 0; one < people; one++) {
            check.due("stings of " + one + " of " + people + " by " + seed, drawn[one + 1], stings[one]);
        }
        check.due("hurts of " + people + " by " + seed, drawn[0], x.led(4));
    }

    private static void weeks() {
        check.says("DRAWN: n from 0 in each week.");
        BeesSting x = Check.parish(0);
        x.mend(0, 1, 12);
        Check.law(x, "n=0");
        x.say(0, 1);
        check.due("the first lie of each", x.drawn(9, 3040, 0), 30);
        Check.law(x, "n=39");
        check.due("the last lie of each", x.drawn(9, 3040, 0), 30);
        Check.law(x, "n=40");
        check.due("no later one", x.drawn(9, 3040, 0), 0);
        Check.law(x, "h=9");
        check.due("each begins at the hour of now", x.drawn(9, 3001, 0), 30);
        check.due("and the hour goes round", x.drawn(9, 3040, 0), 60);
        Check.law(x, "1");
        x.mend(0, 2, 1);
        check.due("each begins with the pads of now", x.drawn(9, 3002, -1), 30);
        check.due("which are not used up", x.of(0, 2), 1);
    }
}
