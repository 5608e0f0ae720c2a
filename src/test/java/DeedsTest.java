/** Promises 21 to 28: sayings in deed, the image, changes undone and done again. */
public final class DeedsTest {
    private static final Check check = new Check("DeedsTest");

    public static void main(String[] args) {
        say();
        lawInDeed();
        go();
        pad();
        led();
        image();
        newcomers();
        undo();
        undoAndDeeds();
        forty();
        check.end();
    }

    private static BeesSting two() {
        BeesSting x = Check.parish(0x04, 0x06);
        Check.law(x, "1");
        return x;
    }

    private static void say() {
        BeesSting x = two();
        check.due("21: who lies within a flight", x.say(0, 1), 0);
        check.due("21: who says something true", x.say(0, 0), -2);
        x.mend(0, 4, 0);
        check.due("21: not there yet", x.say(1, 1), -2);
        check.due("21: the liar, behind another's word", x.say(0, 0), 1);
        check.due("21: the hour goes on", x.of(0, 6), 12);
        x.mend(0, 6, 23);
        x.say(0, 0);
        check.due("21: round the day", x.of(0, 6), 0);
        check.due("21: one 2", x.say(2, 0), -1);
        check.due("21: one -1", x.say(-1, 0), -1);
        check.due("21: lie 2", x.say(0, 2), -1);
        check.due("21: lie -1", x.say(0, -1), -1);
        check.due("21: BAD tells nothing", x.led(0), 5);
        x.pad(0);
        x.mend(0, 4, 4);
        x.say(0, 1);
        check.due("21: a pad less", x.of(0, 2), 0);
        check.due("21: no less than 0", x.say(0, 1), 0);
        check.due("21: no less than 0", x.of(0, 2), 0);
    }

    private static void lawInDeed() {
        BeesSting x = two();
        Check.law(x, "n=1");
        check.due("21: n as led", x.say(0, 1), -2);
        check.due("21: n as led", x.say(0, 1), 0);
        check.due("21: n as led", x.say(0, 1), -2);
        check.due("24: lies, loud or not", x.led(1), 3);
        check.due("24: loud ones", x.led(2), 1);
        BeesSting y = Check.parish(0x04);
        Check.law(y, "h=9");
        check.due("21: the hour as it comes", y.say(0, 1), -2);
        check.due("21: the hour as it comes", y.say(0, 1), 0);
        BeesSting z = Check.parish(0x09, 0x04);
        z.mend(0, 5, 9);
        Check.law(z, "c<7");
        z.say(0, 1);
        z.mend(1, 1, 7);
        check.due("21: one that is not loud leaves the liar", z.say(1, 1), -2);
        check.due("21: as he is", z.led(5), 0);
    }

    private static void go() {
        BeesSting x = two();
        check.due("22: where he was", x.go(0, 255), 4);
        check.due("22: where he is", x.of(0, 0), 255);
        check.due("22: cell 256", x.go(0, 256), -1);
        check.due("22: cell -1", x.go(0, -1), -1);
        check.due("22: one 2", x.go(2, 0), -1);
        check.due("22: one -1", x.go(-1, 0), -1);
        check.due("22: where he is", x.go(0, 0), 255);
        check.due("22: no change", x.count(2), 0);
        Check.law(x, "k");
        check.due("22: neighbours by it", x.loud(1), 2);
        x.go(0, 255);
        check.due("22: neighbours by it", x.loud(1), 1);
    }

    private static void pad() {
        BeesSting x = two();
        for (int i = 1; i <= 9; i++) {
            check.due("23: one more", x.pad(1), i);
        }
        check.due("23: 9 at most", x.pad(1), 9);
        check.due("23: the other one's", x.of(0, 2), 0);
        check.due("23: one 2", x.pad(2), -1);
        check.due("23: one -1", x.pad(-1), -1);
        check.due("23: no change", x.count(2), 0);
    }

    private static void led() {
        BeesSting x = two();
        x.pad(0);
        x.say(0, 1);
        x.say(0, 1);
        x.say(0, 0);
        x.mend(0, 4, 0);
        x.say(1, 1);
        int[] due = {4, 3, 3, 2, 1, 1, 4};
        for (int what = 0; what <= 6; what++) {
            check.due("24: led(" + what + ")", x.led(what), due[what]);
        }
        check.due("24: -1", x.led(-1), -1);
        check.due("24: 7", x.led(7), -1);
        x.say(0, 0);
        check.due("24: nobody", x.led(5), -2);
        check.due("24: hurts", x.led(4), 2);
    }

    private static void image() {
        BeesSting x = two();
        check.due("26: none", x.back(), -5);
        x.mend(0, 4, 0);
        x.say(1, 1);
        x.pad(0);
        check.due("25: sayings", x.image(), 1);
        x.say(0, 1);
        x.say(1, 0);
        x.go(0, 9);
        x.pad(1);
        x.mend(0, 5, 3);
        x.mend(0, 7, 2);
        x.mend(0, 1, 1);
        x.mend(0, 3, 2);
        Check.law(x, "4");
        x.feed(49);
        check.due("26: sayings", x.back(), 1);
        int[] led = {1, 1, 1, 0, 0, 1, 4};
        for (int what = 0; what <= 6; what++) {
            check.due("26: led(" + what + ")", x.led(what), led[what]);
        }
        int[] own = {4, 1, 1, 2};
        int[] all = {4, 3, 9, 2};
        for (int what = 0; what < 4; what++) {
            check.due("26: of(0, " + what + ")", x.of(0, what), own[what]);
            check.due("26: of(0, " + (what + 4) + ")", x.of(0, what + 4), all[what]);
        }
        check.due("26: the other one's pads", x.of(1, 2), 0);
        check.due("26: the law stays", x.loud(0), 4);
        check.due("26: the tape stays", x.count(1), 1);
        check.due("26: changes stay", x.count(2), 4);
        x.say(0, 1);
        check.due("26: once more", x.back(), 1);
        check.due("26: the liar of the image", x.led(5), 1);
        check.due("25: another image", x.image(), 1);
    }

    private static void newcomers() {
        BeesSting x = two();
        x.image();
        x.person(0x07);
        x.pad(2);
        x.go(2, 0x08);
        x.say(2, 1);
        check.due("26: a newcomer is the liar", x.led(5), 2);
        x.back();
        check.due("26: nobody is", x.led(5), -2);
        check.due("26: newcomers as they are", x.of(2, 0), 8);
        check.due("26: newcomers as they are", x.of(2, 2), 1);
        check.due("26: newcomers stay", x.count(0), 3);
        BeesSting y = two();
        y.mend(0, 4, 0);
        y.say(1, 1);
        y.image();
        y.person(0x09);
        y.person(0x0A);
        y.say(0, 1);
        y.back();
        check.due("26: the liar of the image", y.led(5), 1);
        y.say(2, 1);
        check.due("26: the first newcomer is the liar", y.led(5), 2);
        y.back();
        check.due("26: nobody is, whoever was in the image", y.led(5), -2);
        y.say(3, 1);
        y.back();
        check.due("26: nor behind another newcomer", y.led(5), -2);
        BeesSting none = new BeesSting();
        check.due("25: of nobody", none.image(), 0);
        check.due("26: of nobody", none.back(), 0);
    }

    private static void undo() {
        BeesSting x = two();
        check.due("27: none", x.undo(), -5);
        check.due("28: none", x.redo(), -5);
        int[] becomes = {9, 3, 2, 20, 17, 5, 6, 7};
        int[] first = {4, 6, 0, 10, 0, 8, 8, 4};
        for (int what = 0; what < 8; what++) {
            x.mend(0, what, becomes[what]);
            x.mend(0, what, becomes[what]);
        }
        check.due("27: telling the same is none", x.count(2), 8);
        for (int what = 7; what >= 0; what--) {
            check.due("27: how many may still be", x.undo(), what);
            check.due("27: as it was", x.of(0, what), first[what]);
        }
        check.due("27: no more", x.undo(), -5);
        for (int what = 0; what < 8; what++) {
            check.due("28: how many may still be", x.redo(), 7 - what);
            check.due("28: as it became", x.of(0, what), becomes[what]);
        }
        check.due("28: no more", x.redo(), -5);
        x.undo();
        x.undo();
        x.mend(0, 7, 4);
        check.due("28: the same number leaves it", x.redo(), 1);
        x.mend(0, 7, 256);
        check.due("28: so does what is BAD", x.redo(), 0);
        x.undo();
        x.mend(0, 7, 1);
        check.due("28: not behind another one", x.redo(), -5);
        check.due("27: the other one", x.undo(), 7);
        check.due("27: as it was ahead of it", x.of(0, 7), 4);
    }

    private static void undoAndDeeds() {
        BeesSting x = two();
        x.mend(0, 2, 5);
        x.mend(0, 0, 7);
        x.mend(0, 4, 7);
        x.undo();
        x.mend(0, 4, 6);
        x.say(0, 1);
        x.pad(0);
        x.go(0, 200);
        check.due("27: where the swarm was ahead of it", x.undo(), 2);
        check.due("27: whatever deeds did", x.of(0, 4), 0);
        check.due("27: his cell", x.undo(), 1);
        check.due("27: his cell", x.of(0, 0), 4);
        x.go(0, 100);
        x.say(0, 0);
        x.pad(0);
        check.due("27: his pads", x.undo(), 0);
        check.due("27: his pads", x.of(0, 2), 0);
        x.go(0, 101);
        x.say(0, 0);
        check.due("28: deeds leave it", x.redo(), 2);
        check.due("28: his pads", x.of(0, 2), 5);
        x.image();
        x.back();
        check.due("28: the image leaves it", x.redo(), 1);
        check.due("28: his cell", x.of(0, 0), 7);
        x.person(1);
        check.due("28: newcomers leave it", x.redo(), 0);
        check.due("28: the swarm's cell", x.of(0, 4), 6);
    }

    private static void forty() {
        BeesSting x = two();
        for (int i = 1; i <= 45; i++) {
            x.mend(0, 0, 100 + i);
            check.due("38: changes", x.count(2), Math.min(i, 40));
        }
        for (int left = 39; left >= 0; left--) {
            check.due("27: 40 at most", x.undo(), left);
            check.due("27: each as it was", x.of(0, 0), 105 + left);
        }
        check.due("27: no more", x.undo(), -5);
        check.due("27: the oldest is not kept", x.of(0, 0), 105);
        for (int left = 39; left >= 0; left--) {
            check.due("28: 40 again", x.redo(), left);
            check.due("28: each as it became", x.of(0, 0), 145 - left);
        }
        // the oldest gives way to the latest with its number and what it told, too
        x.mend(1, 3, 1);
        x.mend(0, 7, 9);
        for (int i = 0; i < 39; i++) {
            x.mend(i % 2, i % 4, 2 + i % 7);
        }
        int[] before = numbers(x);
        int undone = x.count(2);
        for (int i = 0; i < undone; i++) {
            x.undo();
        }
        check.due("27: another's", x.of(1, 3), 1);
        check.due("27: the last that is kept", x.of(0, 7), undone == 40 ? 4 : 9);
        for (int i = 0; i < undone; i++) {
            x.redo();
        }
        int[] behind = numbers(x);
        for (int i = 0; i < before.length; i++) {
            check.due("28: all as they were, " + i, behind[i], before[i]);
        }
    }

    private static int[] numbers(BeesSting x) {
        int[] all = new int[12];
        for (int i = 0; i < 12; i++) {
            all[i] = i < 8 ? x.of(i / 4, i % 4) : x.of(0, i - 4);
        }
        return all;
    }
}
