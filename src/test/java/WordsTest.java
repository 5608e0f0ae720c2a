/** Promises 16 to 20: last words, criers, what was a lie, weeks by draws. */
public final class WordsTest {
    private static final Check check = new Check("WordsTest");

    public static void main(String[] args) {
        lastWord();
        crier();
        keepNear();
        heard();
        heardAlike();
        heardWrong();
        drawn();
        check.end();
    }

    private static void lastWord() {
        BeesSting x = Check.parish(0x04, 0x08, 0x00);
        Check.law(x, "1");
        check.due("16: nobody begins it", x.lastWord(1, 6, 0), 0);
        check.due("16: of like ones nothing", x.lastWord(1, 6, 1), 0);
        // 1 lies far off; only a lie of 0's own would save nobody but him
        x.mend(0, 7, 2);
        x.say(1, 1);
        check.due("16: the liar as now", x.led(5), 1);
        check.due("16: the first one leaves him to it", x.lastWord(1, 1, 0), 2);
        check.due("16: with nothing", x.lastWord(1, 1, 1), 0);
        // he who is after is stung whatever he does, or lets the other one be: none but he can lie
        check.due("16: his own lie does not help", x.lastWord(10, 1, 0), 1);
        check.due("16: nor is it told", x.lastWord(10, 1, 1), 0);
        check.due("16: none who lies would be better off", x.lastWord(2, 6, 0), 0);
        Check.law(x, "n=1");
        check.due("16: not loud at first", x.lastWord(1, 2, 0), 2);
        int[] wrong = {-1, 0, 11, 22, 3, 30, 8, 9, 80, 100, Integer.MAX_VALUE, Integer.MIN_VALUE};
        for (int ab : wrong) {
            check.due("16: ab " + ab, x.lastWord(ab, 1, 0), -1);
        }
        check.due("16: n 0", x.lastWord(1, 0, 0), -1);
        check.due("16: n 7", x.lastWord(1, 7, 0), -1);
        check.due("16: what 2", x.lastWord(1, 1, 2), -1);
        check.due("16: what -1", x.lastWord(1, 1, -1), -1);
        check.due("16: nothing is led by it", x.led(0), 1);
        lastWordLies();
    }

    /** The swarm is after 0; he who lies from beyond a mile is quit of it. */
    private static void lastWordLies() {
        BeesSting x = Check.parish(0x08, 0xFF);
        Check.law(x, "1");
        x.say(0, 1);
        check.due("16: he is the liar", x.led(5), 0);
        check.due("16: the other one leaves him to it", x.lastWord(10, 1, 0), 2);
        check.due("16: the first one is stung", x.lastWord(1, 1, 0), 1);
        x.mend(0, 0, 0x0F);
        x.mend(0, 4, 0x07);
        x.mend(0, 7, 1);
        x.mend(0, 5, 8);
        check.due("16: too slow to sting him", x.lastWord(1, 1, 0), 0);
        // 8 cells away and a cell an hour: a turn each, and 4 hours of stillness
        check.due("16: n turns in all", x.lastWord(1, 3, 0), 0);
        check.due("16: and 4 hours", x.lastWord(1, 4, 0), 1);
        check.due("16: the other one's turns count too", x.lastWord(10, 3, 0), 0);
        check.due("16: the other one's turns count too", x.lastWord(10, 4, 0), 2);
    }

    private static void crier() {
        BeesSting x = Check.parish(0x08, 0x80, 0x09, 0x00);
        check.due("17: the least of like ones", x.crier(3, 0), 0);
        check.due("17: his pay", x.crier(3, 1), 10);
        check.due("17: not the told one", x.crier(0, 0), 1);
        x.mend(1, 3, 9);
        check.due("17: the cheapest", x.crier(3, 0), 1);
        x.mend(2, 3, 0);
        check.due("17: within a mile", x.crier(3, 0), 1);
        x.mend(0, 3, 17);
        x.pad(0);
        check.due("17: half with pads", x.crier(3, 0), 0);
        check.due("17: half, cut", x.crier(3, 1), 8);
        x.mend(0, 4, 0xFF);
        check.due("17: nobody near", x.crier(3, 0), -2);
        check.due("17: nobody near", x.crier(3, 1), -2);
        check.due("17: one 4", x.crier(4, 0), -1);
        check.due("17: one -1", x.crier(-1, 0), -1);
        check.due("17: what 2", x.crier(0, 2), -1);
        check.due("17: what -1", x.crier(0, -1), -1);
    }

    private static void keepNear() {
        BeesSting x = Check.parish(0x55);
        check.due("18: alone", x.keepNear(0), -2);
        x.person(0x66);
        x.person(0x53);
        x.person(0x77);
        check.due("18: of like ones the least", x.keepNear(0), 1);
        x.mend(2, 1, 5);
        check.due("18: with least cheek", x.keepNear(0), 2);
        x.mend(3, 1, 0);
        check.due("18: the nearest first", x.keepNear(0), 2);
        check.due("18: another's", x.keepNear(3), 1);
        check.due("18: the first one", x.keepNear(2), 0);
        x.mend(3, 0, 0x55);
        check.due("18: in his cell", x.keepNear(0), 3);
        check.due("18: one 4", x.keepNear(4), -1);
        check.due("18: one -1", x.keepNear(-1), -1);
    }

    private static void heard() {
        BeesSting x = Check.parish(0x04, 0x40);
        Check.law(x, "1");
        Check.bytes(x, 0, 0, 2, 0);
        Check.bytes(x, 1, 0, 0, 8);
        check.due("19: ways", x.heard(0, 1, 0), 0);
        check.due("19: fewest of none", x.heard(0, 1, 1), -2);
        check.due("19: which of none", x.heard(0, 1, 2), -2);
        check.due("19: certain of none", x.heard(0, 1, 3), 0);
        Check.bytes(x, 1, 0, 8);
        check.due("19: what lacks is any", x.heard(0, 1, 0), 2);
        check.due("19: fewest", x.heard(0, 1, 1), 2);
        check.due("19: which", x.heard(0, 1, 2), 3);
        check.due("19: certain", x.heard(0, 1, 3), 3);
        Check.bytes(x, 1, 8, 8, 8, 7);
        check.due("19: none lies", x.heard(0, 1, 2), 0);
        check.due("19: nothing is certain", x.heard(0, 1, 3), 0);
        Check.bytes(x, 0, 1, 1, 1);
        Check.bytes(x, 1, 0, 0);
        check.due("19: whatever the day says", x.heard(0, 1, 0), 4);
        check.due("19: the fewest", x.heard(0, 1, 2), 1);
        check.due("19: what was certain", x.heard(0, 1, 3), 1);
        Check.bytes(x, 1, 0, -1);
        check.due("19: below 0 fits never", x.heard(0, 1, 0), 0);
        Check.bytes(x, 1, 9);
        check.due("19: above 8 fits never", x.heard(0, 1, 0), 0);
        Check.bytes(x, 1);
        check.due("19: all ways", x.heard(0, 1, 0), 8);
        x.person(0x04);
        Check.bytes(x, 1, 2);
        check.due("19: the least in a cell", x.heard(0, 1, 0), 0);
        x.mend(0, 4, 0x20);
        x.mend(1, 0, 0x40);
        x.mend(0, 6, 9);
        x.say(1, 1);
        Check.bytes(x, 0, 2, 2);
        Check.law(x, "h>9");
        x.mend(0, 4, 0x20);
        Check.bytes(x, 1, 8, 1);
        check.due("19: begins as all is now", x.heard(0, 1, 0), 1);
        Check.bytes(x, 1, 1, 1);
        check.due("19: begins as all is now", x.heard(0, 1, 3), 1);
        check.due("19: fits", x.heard(0, 1, 1), 1);
        Check.bytes(x, 1, 7);
        check.due("19: the fewest of none, behind some", x.heard(0, 1, 1), -2);
        check.due("19: which of none, behind some", x.heard(0, 1, 2), -2);
        check.due("19: certain of none, behind some", x.heard(0, 1, 3), 0);
        x.mend(0, 4, 0);
        x.mend(0, 6, 8);
        Check.law(x, "n");
        Check.bytes(x, 0, 0, 0, 0);
        Check.bytes(x, 1, 8, 8, 0);
        check.due("19: of like ones the least", x.heard(0, 1, 2), 5);
        check.due("19: ways by n", x.heard(0, 1, 0), 2);
        check.due("19: certain by n", x.heard(0, 1, 3), 4);
    }

    /** Lies of the second and third saying (6), or of the first and fourth (9), lead the swarm alike. */
    private static void heardAlike() {
        BeesSting x = Check.parish(0x05, 0x35);
        Check.law(x, "k");
        x.mend(0, 7, 2);
        Check.bytes(x, 0, 2, 2, 0, 0);
        Check.bytes(x, 1, 8, 8, 8, 0);
        check.due("19: ways that look alike", x.heard(0, 1, 0), 5);
        check.due("19: the fewest lies of these", x.heard(0, 1, 1), 2);
        check.due("19: the least of these", x.heard(0, 1, 2), 6);
        check.due("19: nothing is certain of these", x.heard(0, 1, 3), 0);
    }

    private static void heardWrong() {
        BeesSting x = Check.parish(0);
        Check.bytes(x, 0, 0);
        Check.row(x, 1, 2, 0);
        long[] twelve = new long[12];
        Check.bytes(x, 3, twelve);
        check.due("19: 12", x.heard(3, 0, 0), 4096);
        Check.bytes(x, 3, new long[13]);
        check.due("19: 13", x.heard(3, 0, 0), -5);
        x.put(3, 12, 2);
        check.due("19: 12 by sayings that count", x.heard(3, 3, 0), 4096);
        check.due("19: no day", x.heard(2, 0, 0), -11);
        check.due("19: nothing told", x.heard(0, 2, 0), -11);
        check.due("19: a day of ints", x.heard(1, 0, 0), -12);
        check.due("19: told ints", x.heard(0, 1, 0), -12);
        check.due("19: -11 is named first", x.heard(1, 2, 0), -11);
        check.due("19: what 4", x.heard(2, 0, 4), -1);
        check.due("19: what -1", x.heard(0, 0, -1), -1);
        check.due("19: day -1", x.heard(-1, 0, 0), -1);
        check.due("19: day 6", x.heard(6, 0, 0), -1);
        check.due("19: told -1", x.heard(0, -1, 0), -1);
        check.due("19: told 6", x.heard(0, 6, 0), -1);
    }

    private static void drawn() {
        BeesSting x = Check.parish(0);
        x.mend(0, 1, 12);
        check.due("20: cheek 12 always lies", x.drawn(5, 340, 0), 120);
        check.due("20: one saying", x.drawn(5, 101, 0), 1);
        check.due("20: 30 weeks of 40", x.drawn(5, 3040, 0), 1200);
        x.say(0, 1);
        check.due("20: what hurt in deed is no week's", x.drawn(5, 101, -1), 1);
        Check.law(x, "n<3");
        check.due("20: n from 0 in each week", x.drawn(5, 340, 0), 9);
        check.due("20: it hurts", x.drawn(5, 340, -1), 9);
        x.mend(0, 2, 2);
        check.due("20: each week as all is now", x.drawn(5, 340, -1), 3);
        check.due("20: padded stings", x.drawn(5, 340, 0), 9);
        x.mend(0, 1, 0);
        check.due("20: cheek 0 never lies", x.drawn(5, 340, 0), 0);
        check.due("20: as draws fall", draws(7, 2, 9), 0);
        for (int nm : new int[] {0, 1, 40, 100, 141, 3101, 3041, -101, Integer.MAX_VALUE, Integer.MIN_VALUE}) {
            check.due("20: nm " + nm, x.drawn(1, nm, 0), -1);
        }
        check.due("20: one 1", x.drawn(1, 101, 1), -1);
        check.due("20: one -2", x.drawn(1, 101, -2), -1);
        BeesSting none = new BeesSting();
        check.due("20: nobody", none.drawn(1, 3040, -1), 0);
        check.due("20: nobody", none.drawn(1, 3040, 0), -1);
    }

    /** How far drawn() is from the same sayings told by say(). */
    private static int draws(int seed, int weeks, int sayings) {
        BeesSting x = Check.parish(0x00, 0x13, 0x20);
        x.image();
        int z = seed;
        int stings = 0;
        for (int week = 0; week < weeks; week++) {
            for (int i = 0; i < sayings; i++) {
                z = z * 1103515245 + 12345;
                if (x.say((z >>> 8) % 3, (z >>> 16) % 12 < 6 ? 1 : 0) == 1) {
                    stings++;
                }
            }
            x.back();
        }
        return x.drawn(seed, weeks * 100 + sayings, 1) - stings;
    }
}
