/** The sentences of the document that name an edge: term 4 in deed, promises 21 to 28. */
public final class EdgesDeedsTest {
    private static final int MIN = Integer.MIN_VALUE, MAX = Integer.MAX_VALUE;
    private static final Check check = new Check("EdgesDeedsTest");

    public static void main(String[] args) {
        say();
        go();
        pad();
        led();
        ledByLies();
        image();
        back();
        newcomers();
        sameNumber();
        undoAndRedo();
        noOtherBehind();
        deedsAreNone();
        asAheadOfIt();
        forty();
        check.end();
    }

    private static BeesSting loudParish(int... cells) {
        BeesSting x = Check.parish(cells);
        Check.law(x, "1");
        return x;
    }

    private static void say() {
        check.says("A SAYING (lie 1, true 0): who is STUNG (NOT). BAD.");
        BeesSting x = loudParish(0, 0x0F);
        for (int bad : new int[] {-1, 2, 8, MIN, MAX}) {
            check.due("one " + bad, x.say(bad, 0), -1);
            check.due("lie " + bad, x.say(0, bad), -1);
        }
        check.due("nothing was said by these", x.led(0), 0);
        check.due("no hour went by these", x.of(0, 6), 8);
        check.due("of nobody", new BeesSting().say(0, 0), -1);
        check.due("a true one", x.say(0, 0), -2);
        check.due("a lie", x.say(0, 1), 0);
        check.due("a lie from far", x.say(1, 1), -2);
        check.due("a true one behind it", x.say(0, 0), -2);
        x.go(1, 4);
        check.due("who is stung is not who says it", x.say(0, 0), 1);
    }

    private static void go() {
        check.says("One goes to a CELL: where it was. BAD.");
        BeesSting x = Check.parish(7);
        check.due("to 0", x.go(0, 0), 7);
        check.due("to 255", x.go(0, 255), 0);
        check.due("where he is", x.go(0, 255), 255);
        for (int cell : new int[] {-1, 256, MIN, MAX}) {
            check.due("to " + cell, x.go(0, cell), -1);
        }
        for (int one : new int[] {-1, 1, 8, MIN, MAX}) {
            check.due("one " + one, x.go(one, 3), -1);
        }
        check.due("he stays by these", x.of(0, 0), 255);
    }

    private static void pad() {
        check.says("PADS are put on (one more, 9 at most)");
        BeesSting x = Check.parish(0, 0);
        for (int i = 1; i <= 12; i++) {
            check.due("pad " + i, x.pad(0), Math.min(9, i));
            check.due("pads " + i, x.of(0, 2), Math.min(9, i));
        }
        check.due("the other one's", x.of(1, 2), 0);
        check.says("PADS are put on: PADS then. BAD.");
        for (int one : new int[] {-1, 2, 8, MIN, MAX}) {
            check.due("one " + one, x.pad(one), -1);
        }
    }

    private static void led() {
        check.says("LED: SAYINGS (what 0), lies (1), LOUD ones (2), stings (3), HURTS (4), THE LIAR (5; NOT), the swarm's CELL (6). BAD.");
        BeesSting x = loudParish(0, 0x0F, 0x06);
        for (int what : new int[] {-1, 7, MIN, MAX}) {
            check.due("what " + what, x.led(what), -1);
        }
        x.pad(0);
        int[][] said = {{0, 0}, {0, 1}, {0, 1}, {1, 1}, {2, 1}, {0, 0}};
        int[][] due = {{1, 0, 0, 0, 0, -2, 0}, {2, 1, 1, 1, 0, -2, 0}, {3, 2, 2, 2, 1, -2, 0}, {4, 3, 3, 2, 1, 1, 0},
            {5, 4, 4, 2, 1, 2, 4}, {6, 4, 4, 3, 2, -2, 6}};
        for (int i = 0; i < said.length; i++) {
            x.say(said[i][0], said[i][1]);
            for (int what = 0; what <= 6; what++) {
                check.due("behind " + (i + 1) + ", " + what, x.led(what), due[i][what]);
            }
        }
    }

    private static void ledByLies() {
        check.says("n: all lies ahead, LOUD or not.");
        BeesSting x = Check.parish(0x0F);
        Check.law(x, "n=5|n=6");
        for (int i = 1; i <= 8; i++) {
            x.say(0, 1);
            x.say(0, 0);
            check.due("lies", x.led(1), i);
            check.due("loud ones", x.led(2), Math.max(0, Math.min(2, i - 5)));
        }
        check.says("d, h, n are as they are ahead of the SAYING's own flight, hour and lie");
        BeesSting y = Check.parish(0x04);
        Check.law(y, "d=4&h=8&n=0");
        check.due("as they are ahead", y.say(0, 1), 0);
        check.due("not as they are behind", y.say(0, 1), -2);
        Check.law(y, "d=0&h=10&n=2");
        check.due("as they are ahead", y.say(0, 1), 0);
        check.says("He becomes THE LIAR, then the hour goes, then the swarm flies");
        BeesSting z = loudParish(0x02);
        z.mend(0, 6, 23);
        check.due("it flies at once", z.say(0, 1), 0);
        check.due("the hour went", z.of(0, 6), 0);
        check.due("where it is", z.of(0, 4), 2);
    }

    private static void image() {
        check.says("AN IMAGE keeps CELLS, PADS of PEOPLE, HOUR, THE LIAR, where the swarm is, what LED tells.");
        BeesSting x = loudParish(0x06, 0x0F);
        x.pad(1);
        x.say(0, 1);
        check.due("sayings", x.image(), 1);
        x.say(0, 0);
        x.say(1, 1);
        x.go(0, 99);
        x.go(1, 98);
        x.pad(0);
        x.pad(1);
        for (int i = 0; i < 20; i++) {
            x.say(i % 2, i % 3 % 2);
        }
        check.due("laid back", x.back(), 1);
        int[] led = {1, 1, 1, 0, 0, 0, 4};
        for (int what = 0; what <= 6; what++) {
            check.due("led " + what, x.led(what), led[what]);
        }
        check.due("cell", x.of(0, 0), 0x06);
        check.due("cell", x.of(1, 0), 0x0F);
        check.due("pads", x.of(0, 2), 0);
        check.due("pads", x.of(1, 2), 1);
        check.due("hour", x.of(0, 6), 9);
        check.due("swarm", x.of(0, 4), 4);
        check.due("it goes on from there", x.say(1, 0), 0);
        check.due("it can be laid back again", x.back(), 1);
        check.due("stings", x.led(3), 0);
        x.say(1, 0);
        check.due("another image", x.image(), 2);
        x.say(1, 0);
        check.due("the other image", x.back(), 2);
        check.due("stings", x.led(3), 1);
        check.due("the liar", x.led(5), -2);
    }

    private static void back() {
        check.says("SAYINGS. STATE: there is none.");
        BeesSting x = loudParish(0x0F);
        check.due("there is none", x.back(), -5);
        x.say(0, 1);
        check.due("there is none", x.back(), -5);
        check.due("nothing changes by it", x.led(0), 1);
        check.due("an image of nobody", new BeesSting().image(), 0);
        BeesSting none = new BeesSting();
        none.image();
        none.person(9);
        check.due("it is one", none.back(), 0);
        check.due("he who came stays", none.of(0, 0), 9);
        check.says("back(): CHANGES, MILE, PACE, CHEEK, PAY, THE LAW stay.");
        x.image();
        x.mend(0, 1, 3);
        x.mend(0, 3, 33);
        x.mend(0, 5, 5);
        x.mend(0, 7, 7);
        x.mend(0, 0, 3);
        x.mend(0, 2, 4);
        x.mend(0, 4, 200);
        x.mend(0, 6, 1);
        x.undo();
        Check.law(x, "33");
        x.feed('4');
        check.due("back", x.back(), 1);
        int[] due = {0x0F, 3, 0, 33, 0, 5, 9, 7};
        for (int what = 0; what < 8; what++) {
            check.due("of " + what, x.of(0, what), due[what]);
        }
        check.due("changes", x.count(2), 7);
        check.due("the tape", x.count(1), 1);
        check.due("the law", x.loud(0), 33);
        check.due("what may be done again", x.redo(), 0);
        check.due("it is", x.of(0, 6), 1);
        check.due("no more", x.redo(), -5);
        x.undo();
        check.due("the hour ahead of it", x.of(0, 6), 9);
        x.undo();
        check.due("the swarm ahead of it", x.of(0, 4), 0);
    }

    private static void newcomers() {
        check.says("(PEOPLE that came since as they are; one of them who is THE LIAR: nobody is)");
        BeesSting x = loudParish(0x0E);
        x.image();
        x.person(0x0F);
        x.pad(1);
        x.mend(1, 1, 2);
        x.mend(1, 3, 3);
        x.go(1, 0x1F);
        x.say(1, 1);
        check.due("he is the liar", x.led(5), 1);
        check.due("laid back", x.back(), 0);
        check.due("nobody is", x.led(5), -2);
        int[] due = {0x1F, 2, 1, 3};
        for (int what = 0; what < 4; what++) {
            check.due("he is as he is, " + what, x.of(1, what), due[what]);
        }
        check.due("he stays", x.count(0), 2);
        x.say(0, 1);
        x.image();
        x.say(1, 1);
        check.due("he is the liar", x.led(5), 1);
        x.back();
        check.due("he came ahead of this image", x.led(5), 0);
        Check.row(x, 0, 1, 0x2F, 6, 2);
        x.people(0, 0, 1);
        x.say(0, 1);
        x.back();
        check.due("he who came lied not", x.led(5), 0);
        check.due("he is as he came", x.of(2, 0) * 10 + x.of(2, 2), 0x2F * 10 + 2);
        for (int i = 3; i < 8; i++) {
            x.person(0x3F);
        }
        x.say(7, 1);
        x.back();
        check.due("the last of them", x.led(5), -2);
    }

    private static void sameNumber() {
        check.says("CHANGES (all numbers of mend(); telling the same number is none)");
        BeesSting x = Check.parish(5);
        for (int what = 0; what < 8; what++) {
            int is = x.of(0, what);
            check.due("the same, " + what, x.mend(0, what, is), is);
            check.due("none, " + what, x.count(2), what);
            int other = what == 5 || what == 7 ? 2 : 1;
            check.due("another, " + what, x.mend(0, what, other), is);
            check.due("one, " + what, x.count(2), what + 1);
            check.due("the same again, " + what, x.mend(0, what, other), other);
            check.due("none again, " + what, x.count(2), what + 1);
        }
    }

    private static void undoAndRedo() {
        check.says("UNDONE: how many may still be. STATE: none.");
        BeesSting x = Check.parish(5);
        check.due("none", x.undo(), -5);
        x.mend(0, 0, 6);
        x.mend(0, 0, 7);
        check.due("the latest first", x.undo() * 100 + x.of(0, 0), 106);
        check.due("then that ahead of it", x.undo() * 100 + x.of(0, 0), 5);
        check.due("none", x.undo(), -5);
        check.due("none is 0 of them", x.count(2), 0);
        check.says("DONE AGAIN: how many may still be. STATE: none.");
        check.due("the one undone last", x.redo() * 100 + x.of(0, 0), 106);
        check.due("then the next", x.redo() * 100 + x.of(0, 0), 7);
        check.due("none", x.redo(), -5);
        check.due("they may be undone", x.count(2), 2);
        check.due("none of a new one", new BeesSting().redo(), -5);
    }

    private static void noOtherBehind() {
        check.says("DONE AGAIN (as long as no other came behind)");
        BeesSting x = Check.parish(5);
        x.mend(0, 0, 6);
        x.mend(0, 0, 7);
        x.undo();
        x.undo();
        x.mend(0, 0, 5);
        x.mend(0, 0, 256);
        x.mend(0, 9, 1);
        check.due("the same number and BAD ones leave it", x.redo(), 1);
        x.mend(0, 3, 11);
        check.due("another one", x.redo(), -5);
        check.due("two may be undone", x.count(2), 2);
        x.undo();
        check.due("his pay", x.of(0, 3), 10);
        x.undo();
        check.due("his cell", x.of(0, 0), 5);
        x.mend(0, 0, 6);
        check.due("the very same one is another one", x.redo(), -5);
        check.due("one may be undone", x.count(2), 1);
    }

    private static void deedsAreNone() {
        check.says("deeds are none (CELLS, PADS, HOUR, the swarm's CELL by them, too)");
        BeesSting x = loudParish(4);
        x.say(0, 1);
        x.go(0, 9);
        x.pad(0);
        x.image();
        x.back();
        x.person(3);
        x.row(0, 1, 3);
        x.people(0, 0, 1);
        check.due("none", x.count(2), 0);
        check.due("none", x.undo(), -5);
        check.says("deeds leave what may be DONE AGAIN");
        x.mend(0, 0, 77);
        x.mend(0, 2, 7);
        x.undo();
        x.undo();
        x.say(0, 1);
        x.go(0, 1);
        x.pad(0);
        x.back();
        x.person(3);
        Check.law(x, "2");
        check.due("one more", x.redo(), 1);
        check.due("his cell", x.of(0, 0), 77);
        check.due("no more", x.redo(), 0);
        check.due("his pads", x.of(0, 2), 7);
    }

    private static void asAheadOfIt() {
        check.says("A mend that is UNDONE is as ahead of it, whatever deeds did");
        BeesSting x = loudParish(4);
        x.mend(0, 0, 3);
        x.mend(0, 2, 1);
        x.mend(0, 6, 20);
        x.mend(0, 4, 2);
        x.say(0, 1);
        x.pad(0);
        x.pad(0);
        x.go(0, 200);
        check.due("where the swarm flew", x.of(0, 4), 3);
        int[] whats = {4, 6, 2, 0};
        int[] was = {0, 8, 0, 4};
        for (int i = 0; i < 4; i++) {
            check.due("undone", x.undo(), 3 - i);
            check.due("as ahead of it", x.of(0, whats[i]), was[i]);
        }
        x.go(0, 201);
        x.say(0, 0);
        x.pad(0);
        int[] again = {3, 1, 20, 2};
        for (int i = 0; i < 4; i++) {
            check.due("done again", x.redo(), 3 - i);
            check.due("as it became", x.of(0, whats[3 - i]), again[i]);
        }
        for (int i = 0; i < 4; i++) {
            x.undo();
            check.due("as ahead of the mend itself", x.of(0, whats[i]), was[i]);
        }
        x.image();
        x.mend(0, 0, 150);
        x.back();
        check.due("laid back", x.of(0, 0), 4);
        x.mend(0, 0, 151);
        x.undo();
        check.due("as ahead of it", x.of(0, 0), 4);
    }

    private static void forty() {
        check.says("40 at most are kept");
        BeesSting x = Check.parish(0);
        for (int i = 1; i <= 41; i++) {
            x.mend(0, 0, i);
            check.due("kept of " + i, x.count(2), Math.min(40, i));
        }
        for (int left = 39; left >= 0; left--) {
            check.due("undone", x.undo(), left);
            check.due("where he is", x.of(0, 0), left + 1);
        }
        check.due("the first of 41 is not kept", x.undo(), -5);
        for (int left = 39; left >= 0; left--) {
            check.due("done again", x.redo(), left);
        }
        check.due("where he is", x.of(0, 0), 41);
        for (int i = 0; i < 10; i++) {
            x.undo();
        }
        check.due("ten undone", x.count(2), 30);
        for (int i = 0; i < 10; i++) {
            x.mend(0, 0, 100 + i);
        }
        check.due("forty again", x.count(2), 40);
        x.mend(0, 0, 110);
        check.due("forty still", x.count(2), 40);
        for (int i = 0; i < 40; i++) {
            x.undo();
        }
        check.due("the eldest gave way", x.of(0, 0), 2);
    }
}
