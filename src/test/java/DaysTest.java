/** Promises 9 to 15: days in thought. */
public final class DaysTest {
    private static final Check check = new Check("DaysTest");

    public static void main(String[] args) {
        day();
        flight();
        dayEnds();
        stung();
        reach();
        soon();
        passOn();
        orders();
        stand();
        wrongRows();
        check.end();
    }

    /** 0 at 4 far, 1 at 5 far, 2 at 9 far, all loud by any lie. */
    private static BeesSting three() {
        BeesSting x = Check.parish(0x04, 0x32, 0x90);
        Check.law(x, "1");
        return x;
    }

    private static void day() {
        BeesSting x = three();
        Check.bytes(x, 0, 3, 0, 5, 4, 1);
        check.due("9: liar behind none", x.day(0, 0, 0), -2);
        check.due("9: swarm behind none", x.day(0, 0, 1), 0);
        check.due("9: louds behind none", x.day(0, 0, 2), 0);
        check.due("9: liar behind 1", x.day(0, 1, 0), 1);
        check.due("9: along X, then along Y", x.day(0, 1, 1), 0x22);
        check.due("9: stung behind 2", x.day(0, 2, 0), -2);
        check.due("9: no farther than he", x.day(0, 2, 1), 0x32);
        check.due("9: the liar 2", x.day(0, 3, 0), 2);
        check.due("9: the swarm flies to him", x.day(0, 3, 1), 0x50);
        check.due("9: all, if there are fewer", x.day(0, 24, 0), 0);
        check.due("9: louds", x.day(0, 24, 2), 1 | 4 | 16);
        check.due("9: n -1", x.day(0, -1, 0), -1);
        check.due("9: n 25", x.day(0, 25, 0), -1);
        check.due("9: what -1", x.day(0, 0, -1), -1);
        check.due("9: what 3", x.day(0, 0, 3), -1);
        check.due("9: nothing is led by it", x.led(0), 0);
        check.due("9: no hour goes by it", x.of(0, 6), 8);
    }

    private static void flight() {
        BeesSting x = Check.parish(0x80, 0xFF, 0x00);
        Check.law(x, "1");
        Check.bytes(x, 0, 1, 2, 2);
        check.due("9: within a mile, just", x.day(0, 1, 1), 0x40);
        x.mend(0, 5, 7);
        check.due("9: farther: it stays", x.day(0, 3, 1), 0);
        check.due("9: and he stays the liar", x.day(0, 3, 0), 0);
        x.mend(0, 5, 8);
        x.mend(0, 7, 9);
        check.due("9: there at once", x.day(0, 1, 1), 0x80);
        check.due("9: and stung", x.day(0, 1, 0), -2);
        Check.bytes(x, 0, 5);
        check.due("9: in his cell already", x.day(0, 1, 0), -2);
        x.mend(0, 4, 0xF8);
        x.mend(0, 7, 3);
        Check.bytes(x, 0, 3, 2, 2);
        check.due("9: up X", x.day(0, 1, 1), 0xFB);
        x.mend(0, 0, 0x92);
        Check.bytes(x, 0, 1, 2, 2, 2);
        x.mend(0, 5, 20);
        check.due("9: down X", x.day(0, 1, 1), 0xF5);
        check.due("9: then down Y", x.day(0, 3, 1), 0xC2);
    }

    private static void dayEnds() {
        BeesSting x = three();
        Check.bytes(x, 0, 0, 6, 1);
        check.due("9: ends with nobody's", x.day(0, 24, 2), 0);
        Check.bytes(x, 0, 0, -1, 1);
        check.due("9: ends with a byte below 0", x.day(0, 24, 2), 0);
        Check.bytes(x, 0, 0, 200, 1);
        check.due("9: 200 is below 0", x.day(0, 24, 2), 0);
        long[] many = new long[26];
        java.util.Arrays.fill(many, 1);
        Check.bytes(x, 0, many);
        check.due("9: of a long row the first 24", x.day(0, 24, 2), (1 << 24) - 1);
        check.due("10: of a long row the first 24", x.stung(0, 24, 0, 0), 24);
        Check.law(x, "n<2");
        check.due("9: n counts all lies ahead", x.day(0, 24, 2), 3);
        Check.law(x, "h=23|h=0");
        check.due("9: the hour goes round", x.day(0, 24, 2), 3 << 15);
        Check.law(x, "g=1");
        x.mend(0, 2, 2);
        check.due("9: pads are used up, only behind a sting", x.day(0, 24, 2), 0);
        Check.law(x, "g");
        check.due("9: pads are used up", x.day(0, 24, 2), 3);
        check.due("9: not in deed", x.of(0, 2), 2);
        x.say(1, 1);
        check.due("9: n from 0 in thought", x.led(1), 1);
        Check.law(x, "n=0");
        check.due("9: n from 0", x.day(0, 24, 2), 1);
        Check.law(x, "d");
        Check.bytes(x, 0, 1, 1);
        check.due("9: d ahead of the flight", x.day(0, 24, 2), 1);
    }

    private static void stung() {
        BeesSting x = three();
        x.mend(0, 2, 1);
        Check.bytes(x, 0, 2, 1, 1, 1, 3, 2);
        check.due("10: times", x.stung(0, 24, 0, 0), 3);
        check.due("10: hurts", x.stung(0, 24, 0, 1), 2);
        check.due("10: the first", x.stung(0, 24, 0, 2), 1);
        check.due("10: times of 2", x.stung(0, 2, 0, 0), 1);
        check.due("10: hurts of 2", x.stung(0, 2, 0, 1), 0);
        check.due("10: not in 1", x.stung(0, 1, 0, 2), -2);
        check.due("10: none in 0", x.stung(0, 0, 0, 0), 0);
        check.due("10: no first in 0", x.stung(0, 0, 0, 2), -2);
        check.due("10: another's times", x.stung(0, 24, 1, 0), 1);
        check.due("10: another's first", x.stung(0, 24, 1, 2), 5);
        check.due("10: never", x.stung(0, 24, 2, 0), 0);
        check.due("10: never first", x.stung(0, 24, 2, 2), -2);
        check.due("10: one 3", x.stung(0, 24, 3, 0), -1);
        check.due("10: one -1", x.stung(0, 24, -1, 0), -1);
        check.due("10: what 3", x.stung(0, 24, 0, 3), -1);
        check.due("10: what -1", x.stung(0, 24, 0, -1), -1);
        check.due("10: n 25", x.stung(0, 25, 0, 0), -1);
        check.due("10: n -1", x.stung(0, -1, 0, 0), -1);
        Check.bytes(x, 0, 2);
        check.due("10: nothing of the longer day ahead", x.stung(0, 24, 0, 0), 0);
        x.say(2, 1);
        x.mend(0, 5, 20);
        Check.bytes(x, 0, 0, 0, 0);
        check.due("10: the liar as now", x.stung(0, 24, 2, 2), 2);
    }

    private static void reach() {
        BeesSting x = three();
        check.due("11: reach", x.reach(), 3);
        x.mend(0, 5, 9);
        check.due("11: a mile just so", x.reach(), 7);
        x.mend(0, 5, 3);
        check.due("11: nobody", x.reach(), 0);
        x.mend(0, 4, 0x90);
        check.due("11: in his cell", x.reach(), 4);
        check.due("11: without people", new BeesSting().reach(), 0);
    }

    private static void soon() {
        BeesSting x = three();
        check.due("12: at once", x.soon(0), 0);
        check.due("12: behind one", x.soon(1), 1);
        check.due("12: too far", x.soon(2), -2);
        x.mend(0, 5, 9);
        x.mend(0, 7, 1);
        check.due("12: behind 8", x.soon(2), 8);
        check.due("12: behind 3", x.soon(0), 3);
        Check.law(x, "d=5");
        check.due("12: not loud", x.soon(0), -2);
        check.due("12: loud", x.soon(1), 4);
        check.due("12: -1", x.soon(-1), -1);
        check.due("12: 3", x.soon(3), -1);
        Check.law(x, "1");
        x.say(1, 1);
        check.due("12: the liar himself", x.soon(1), 3);
        Check.law(x, "0");
        check.due("12: the liar's lie that is not loud", x.soon(1), -2);
        Check.law(x, "n=0");
        check.due("12: n from 0", x.soon(0) >= 0 ? 1 : 0, 1);
    }

    private static void passOn() {
        BeesSting x = three();
        Check.bytes(x, 0);
        check.due("13: best is not at all", x.passOn(0, 0, 0), 2);
        check.due("13: not at all", x.passOn(0, 0, 1), 24);
        check.due("13: not himself", x.passOn(0, 2, 0), 1);
        check.due("13: behind 1", x.passOn(0, 2, 1), 1);
        x.person(0x23);
        check.due("13: of like ones the least", x.passOn(0, 2, 0), 1);
        Check.bytes(x, 0, 1);
        check.due("13: behind the day", x.passOn(0, 2, 0), 1);
        check.due("13: behind the day", x.passOn(0, 2, 1), 1);
        Check.bytes(x, 0, 3, 0);
        check.due("13: the swarm where the day leaves it", x.passOn(0, 2, 0), 0);
        Check.law(x, "n=1");
        check.due("13: n by the day's lies", x.passOn(0, 2, 0), 1);
        Check.bytes(x, 0);
        check.due("13: nobody is loud", x.passOn(0, 2, 0), -2);
        check.due("13: nobody is loud", x.passOn(0, 2, 1), -2);
        check.due("13: one 4", x.passOn(0, 4, 0), -1);
        check.due("13: one -1", x.passOn(0, -1, 0), -1);
        check.due("13: what 2", x.passOn(0, 0, 2), -1);
        check.due("13: what -1", x.passOn(0, 0, -1), -1);
        BeesSting alone = Check.parish(0);
        Check.bytes(alone, 0);
        check.due("13: no other one", alone.passOn(0, 0, 0), -2);
    }

    private static void orders() {
        BeesSting x = Check.parish(0x04, 0x04);
        Check.law(x, "1");
        Check.bytes(x, 0, 1, 3, 0);
        check.due("14: each lie hurts", x.orders(0, -1), 2);
        check.due("14: quiet", x.orders(0, -2), 0);
        check.due("14: first by places", x.orders(0, 2), 2);
        Check.bytes(x, 0, 1, 3, 0);
        x.mend(0, 7, 1);
        check.due("14: behind 4", x.orders(0, -1), 0);
        check.due("14: all are quiet", x.orders(0, -2), 6);
        x.mend(0, 7, 2);
        Check.bytes(x, 0, 1, 0, 3);
        check.due("14: one lies behind the other", x.orders(0, -1), 1);
        check.due("14: not as the day has them", x.orders(0, 0), 0);
        check.due("14: the second", x.orders(0, 1), 2);
        check.due("14: the third", x.orders(0, 2), 1);
        check.due("14: none is quiet", x.orders(0, -2), 0);
        Check.bytes(x, 0, 1, 0, 0);
        x.mend(0, 7, 1);
        x.mend(0, 4, 1);
        check.due("14: quiet where he lies behind the first", x.orders(0, -2), 4);
        check.due("14: the lie comes second", x.orders(0, 1), 0);
        check.due("14: of like ones apart", x.orders(0, 0), 1);
        check.due("14: not as many", x.orders(0, 3), -2);
        check.due("14: not as many", x.orders(0, Integer.MAX_VALUE), -2);
        check.due("14: k -3", x.orders(0, -3), -1);
        check.due("14: k MIN", x.orders(0, Integer.MIN_VALUE), -1);
        Check.bytes(x, 0);
        check.due("14: of none", x.orders(0, -1), 0);
        check.due("14: quiet of none", x.orders(0, -2), 1);
        check.due("14: the first of none", x.orders(0, 0), -2);
        x.mend(0, 4, 4);
        x.say(0, 1);
        check.due("14: what hurt in deed is no thought's", x.led(4), 1);
        Check.bytes(x, 0, 0, 0, 0, 0, 0, 0, 0);
        check.due("14: 7 true ones", x.orders(0, -2), 5040);
        check.due("14: 7 true ones", x.orders(0, 6), 6);
        Check.bytes(x, 0, 0, 0, 0, 0, 0, 0, 0, 0);
        check.due("14: 8", x.orders(0, -1), -5);
        check.due("14: 8", x.orders(0, -2), -5);
        Check.bytes(x, 0, 0, 0, 0, 0, 0, 0, 0, 99);
        check.due("14: 7 that count", x.orders(0, -1), 0);
    }

    private static void stand() {
        BeesSting x = Check.parish(0, 255);
        Check.law(x, "1");
        Check.bytes(x, 0, 1);
        check.due("15: the least", x.stand(0, 0, 0), 5);
        check.due("15: not within 4 cells", x.stand(0, 0, 1), 256 - 15);
        check.due("15: he stays where he is", x.of(0, 0), 0);
        check.due("15: the other one anywhere", x.stand(0, 1, 0), 0);
        check.due("15: the other one anywhere", x.stand(0, 1, 1), 256);
        x.mend(0, 5, 20);
        x.mend(0, 7, 9);
        Check.bytes(x, 0, 1, 0, 0, 0);
        x.mend(0, 4, 0x88);
        check.due("15: nowhere", x.stand(0, 0, 0), -2);
        check.due("15: nowhere", x.stand(0, 0, 1), 0);
        Check.law(x, "k=1");
        x.mend(0, 5, 3);
        check.due("15: by his neighbours there", x.stand(0, 0, 1) > 0 ? 1 : 0, 1);
        check.due("15: one 2", x.stand(0, 2, 0), -1);
        check.due("15: one -1", x.stand(0, -1, 0), -1);
        check.due("15: what 2", x.stand(0, 0, 2), -1);
        check.due("15: what -1", x.stand(0, 0, -1), -1);
        check.due("15: no change is kept", x.count(2), 4);
    }

    private static void wrongRows() {
        BeesSting x = three();
        Check.row(x, 1, 1, 1, 2);
        x.body(0);
        x.keep(2, 0);
        Check.row(x, 3, 4, 1);
        int[][] shelves = {{0, -11}, {1, -12}, {2, -12}, {3, -12}, {-1, -1}, {6, -1}};
        for (int[] one : shelves) {
            check.due("9: shelf " + one[0], x.day(one[0], 1, 0), one[1]);
            check.due("10: shelf " + one[0], x.stung(one[0], 1, 0, 0), one[1]);
            check.due("13: shelf " + one[0], x.passOn(one[0], 0, 0), one[1]);
            check.due("14: shelf " + one[0], x.orders(one[0], -1), one[1]);
            check.due("15: shelf " + one[0], x.stand(one[0], 0, 0), one[1]);
            check.due("9: BAD is named first", x.day(one[0], 25, 0), -1);
            check.due("10: BAD is named first", x.stung(one[0], 1, 3, 0), -1);
            check.due("13: BAD is named first", x.passOn(one[0], 3, 0), -1);
            check.due("14: BAD is named first", x.orders(one[0], -3), -1);
            check.due("15: BAD is named first", x.stand(one[0], 3, 0), -1);
        }
    }
}
