/** Promises 1 to 8: a new object, people, their numbers, the law. */
public final class PeopleTest {
    private static final int MIN = Integer.MIN_VALUE, MAX = Integer.MAX_VALUE;
    private static final Check check = new Check("PeopleTest");

    public static void main(String[] args) {
        newObject();
        person();
        people();
        mendAndOf();
        feed();
        faults();
        law();
        loud();
        check.end();
    }

    private static void newObject() {
        BeesSting x = new BeesSting();
        int[] atFirst = {0, 8, 8, 4};
        for (int what = 4; what <= 7; what++) {
            check.due("1: of(0, " + what + ")", x.of(0, what), atFirst[what - 4]);
        }
        for (int what = 0; what <= 4; what++) {
            check.due("1: count(" + what + ")", x.count(what), 0);
            check.due("1: led(" + what + ")", x.led(what), 0);
        }
        check.due("1: led(5)", x.led(5), BeesSting.NOT);
        check.due("1: led(6)", x.led(6), 0);
        for (int shelf = 0; shelf < 6; shelf++) {
            check.due("1: taken", x.taken(shelf, 0), -11);
        }
    }

    private static void person() {
        BeesSting x = new BeesSting();
        check.due("2: person(-1)", x.person(-1), -1);
        check.due("2: person(256)", x.person(256), -1);
        check.due("2: person(MIN)", x.person(MIN), -1);
        check.due("2: person(MAX)", x.person(MAX), -1);
        for (int i = 0; i < 8; i++) {
            check.due("2: person", x.person(i == 7 ? 255 : i * 17), i);
        }
        check.due("2: person when full", x.person(0), -3);
        check.due("2: no cell when full", x.person(256), -1);
        check.due("2: count(0)", x.count(0), 8);
        check.due("2: cell", x.of(7, 0), 255);
        check.due("2: cheek", x.of(7, 1), 6);
        check.due("2: pads", x.of(7, 2), 0);
        check.due("2: pay", x.of(7, 3), 10);
    }

    private static void people() {
        BeesSting x = new BeesSting();
        check.due("3: shelf -1", x.people(-1, 0, 1), -1);
        check.due("3: shelf 6", x.people(6, 0, 1), -1);
        check.due("3: n 0", x.people(0, 0, 0), -1);
        check.due("3: n 9", x.people(0, 0, 9), -1);
        check.due("3: missing", x.people(0, 0, 8), 0);
        Check.bytes(x, 0, 1, 2, 3);
        check.due("3: bytes", x.people(0, 0, 1), -12);
        check.due("3: bytes, i below 0", x.people(0, -1, 1), -12);
        x.body(0);
        x.keep(0, 0);
        check.due("3: a body", x.people(0, 0, 1), -12);
        Check.row(x, 1, 1, 17, 12, 9, 34, 0, 0, 51, 5, 1, 68, 3);
        check.due("3: i -1", x.people(1, -1, 3), 0);
        check.due("3: i MIN", x.people(1, MIN, 3), 0);
        check.due("3: i MAX", x.people(1, MAX, 3), 0);
        check.due("3: i behind it", x.people(1, 11, 3), 0);
        check.due("3: ends within a three", x.people(1, 9, 3), 0);
        check.due("3: none came", x.count(0), 0);
        BeesSting few = new BeesSting();
        Check.row(few, 0, 1, 1, 1, 1, 2, 2, 2);
        check.due("3: up to the row's end", few.people(0, 3, 8), 1);
        check.due("3: up to the row's end", few.people(0, 0, 8), 2);
        check.due("3: no more than n", x.people(1, 0, 2), 2);
        check.due("3: cell", x.of(0, 0), 17);
        check.due("3: cheek", x.of(0, 1), 12);
        check.due("3: pads", x.of(0, 2), 9);
        check.due("3: pay", x.of(0, 3), 10);
        check.due("3: second cell", x.of(1, 0), 34);
        check.due("3: until it ends", x.people(1, 3, 8), 2);
        check.due("3: until full", x.people(1, 0, 3), 3);
        check.due("3: count", x.count(0), 7);
        check.due("3: the last that fits", x.people(1, 0, 3), 1);
        check.due("3: full", x.people(1, 0, 3), 0);
        long[][] wrong = {{-1, 6, 0}, {256, 6, 0}, {0, -1, 0}, {0, 13, 0}, {0, 6, -1}, {0, 6, 10}};
        for (long[] one : wrong) {
            BeesSting y = new BeesSting();
            Check.row(y, 5, 1, 255, 12, 9, one[0], one[1], one[2], 0, 0, 0);
            check.due("3: ends at one who may not be", y.people(5, 0, 3), 1);
        }
    }

    private static void mendAndOf() {
        BeesSting x = Check.parish(5, 6);
        int[] low = {0, 0, 0, 0, 0, 1, 0, 1};
        int[] high = {255, 12, 9, 99, 255, 20, 23, 9};
        int[] first = {6, 6, 0, 10, 0, 8, 8, 4};
        for (int what = 0; what < 8; what++) {
            int who = what < 4 ? 1 : 0;
            check.due("4: too low", x.mend(who, what, low[what] - 1), -1);
            check.due("4: too high", x.mend(who, what, high[what] + 1), -1);
            check.due("4: MIN", x.mend(who, what, MIN), -1);
            check.due("4: MAX", x.mend(who, what, MAX), -1);
            check.due("5: of", x.of(who, what), first[what]);
            check.due("4: lowest", x.mend(who, what, low[what]), first[what]);
            check.due("4: highest", x.mend(who, what, high[what]), low[what]);
            check.due("5: of", x.of(who, what), high[what]);
            check.due("4: nobody's", x.mend(2, what, low[what]), -1);
            check.due("4: number -1", x.mend(-1, what, low[what]), -1);
            check.due("5: nobody's", x.of(2, what), -1);
            check.due("5: number -1", x.of(-1, what), -1);
        }
        check.due("4: the other one as he was", x.of(0, 0), 5);
        check.due("4: the swarm's number is 0", x.mend(1, 4, 3), -1);
        check.due("5: the swarm's number is 0", x.of(1, 4), -1);
        for (int what : new int[] {-1, 8, MIN, MAX}) {
            check.due("4: what", x.mend(0, what, 1), -1);
            check.due("5: what", x.of(0, what), -1);
        }
        check.due("4: without people", new BeesSting().mend(0, 1, 1), -1);
    }

    private static void feed() {
        BeesSting x = new BeesSting();
        check.due("6: -1", x.feed(-1), -1);
        check.due("6: 256", x.feed(256), -1);
        for (int i = 1; i <= 120; i++) {
            check.due("6: feed", x.feed(i == 1 ? 0 : 255), i);
        }
        check.due("6: full", x.feed(1), -3);
        check.due("6: no byte when full", x.feed(256), -1);
        check.due("6: count", x.count(1), 120);
        check.due("7: byte 0", x.law(), -100);
        check.due("7: the tape is empty", x.count(1), 0);
        check.due("6: again", x.feed(49), 1);
    }

    private static void fault(String text, int place) {
        BeesSting x = Check.parish(0);
        check.due("7: " + text, Check.law(x, text), -100 - place);
        check.due("7: the tape behind " + text, x.count(1), 0);
        check.due("7: no law behind " + text, x.loud(0), 7);
    }

    private static void faults() {
        fault("", 0);
        fault(";", 0);
        fault("1;", 2);
        fault("1;;1", 2);
        fault("12345", 4);
        fault("1 ", 1);
        fault("x", 0);
        fault("cc", 1);
        fault("1c", 1);
        fault("c1", 1);
        fault("1+", 2);
        fault("1+*2", 2);
        fault("1<2<3", 3);
        fault("1=2>3", 3);
        fault("1?2?3", 3);
        fault("1?", 2);
        fault("(1?2)", 2);
        fault("(1;2)", 2);
        fault("(1", 2);
        fault("1)", 1);
        fault("()", 1);
        fault("!", 1);
        fault("-", 1);
        fault("+1", 0);
        fault("1||2", 2);
        fault("1&", 2);
        fault("1|", 2);
        fault("1<", 2);
        fault("1*", 2);
        fault("1%", 2);
        fault("1-", 2);
        fault("0;1|", 4);
        fault("1?((((((-1", 8);
        fault("1;((((((-1", 8);
        fault("!!!!!!!1", 6);
        fault("((((((1))))))+((((((-1", 20);
        fault("-(-(-(-1", 6);
        fault("(!(!(!(1", 6);
        fault("1!", 1);
        fault("C", 0);
        fault("9999" + (char) 233, 4);
    }

    private static void worth(String text, int want) {
        BeesSting x = Check.parish(0x21, 0x01, 0xF0);
        x.mend(0, 1, 7);
        x.mend(0, 2, 5);
        check.due("7: law " + text, Check.law(x, text), 1);
        check.due("8: loud by " + text, x.loud(0), want);
    }

    /** By who has cheek 7, pads 5, is 3 far, at hour 8, with one neighbour. */
    private static void law() {
        worth("c", 7);
        worth("g", 5);
        worth("d", 3);
        worth("h", 8);
        worth("n", 0);
        worth("k", 2);
        worth("0099", 99);
        worth("9999", 99);
        worth("0-1", 0);
        worth("1+2*3", 7);
        worth("(1+2)*3", 9);
        worth("9-3-2", 4);
        worth("80/4/5", 4);
        worth("80/(4/5)", 0);
        worth("17%7%2", 1);
        worth("-7/2+10", 7);
        worth("-7%4+10", 7);
        worth("7%-4", 3);
        worth("5%0+5/0+1", 1);
        worth("--5", 5);
        worth("-!0+5", 4);
        worth("!-5", 0);
        worth("!!!!!!7", 1);
        worth("((((((3))))))+((((((4))))))", 7);
        worth("7|0", 1);
        worth("0|0", 0);
        worth("7&8", 1);
        worth("7&0", 0);
        worth("1|1&0", 1);
        worth("1<2&2<3", 1);
        worth("(1<2)+(2<1)+(2=2)+(2>1)", 3);
        worth("1<1+1", 1);
        worth("2>2", 0);
        worth("1>2", 0);
        worth("2<2", 0);
        worth("1=2", 0);
        worth("1?((((((7))))))", 7);
        worth("((((((1))))))?8", 8);
        worth("0?5;4", 4);
        worth("2?5;4", 5);
        worth("0;4", 0);
        worth("0?5;0?4", 0);
        worth("c<3?1;d=3?g*2;9", 10);
        worth("0-1?6;2", 6);
        worth("9999*9999*9999*9999", 99);
        worth("(9999*9999*9999*22<0)+1", ((9999 * 9999 * 9999 * 22 < 0) ? 1 : 0) + 1);
        BeesSting x = Check.parish(0);
        check.due("7: a text of 120", Check.law(x, "1+".repeat(59) + "10"), 1);
        check.due("8: a text of 120", x.loud(0), 69);
        check.due("7: a text of 120 that ends too early", Check.law(x, "1+".repeat(60)), -220);
        check.due("7: the law stays as it was", x.loud(0), 69);
        check.due("7: another law", Check.law(x, "3"), 1);
        check.due("8: another law", x.loud(0), 3);
    }

    private static void loud() {
        BeesSting x = Check.parish(0x00, 0x43, 0x06);
        check.due("8: -1", x.loud(-1), -1);
        check.due("8: 3", x.loud(3), -1);
        check.due("8: without a text", x.loud(0), 7);
        check.due("8: 7 far", x.loud(1), 0);
        check.due("8: 6 far", x.loud(2), 1);
        x.mend(0, 1, 7);
        check.due("8: cheek by 2, cut", x.loud(0), 7);
        x.mend(0, 4, 0xFF);
        check.due("8: not below 0", x.loud(0), 0);
        x.mend(0, 4, 0);
        x.say(0, 1);
        check.due("8: n from 0 in thought", x.loud(0), 7);
        Check.law(x, "k");
        x.mend(0, 5, 5);
        check.due("8: neighbours within a mile", x.loud(0), 1);
        x.mend(0, 5, 6);
        check.due("8: neighbours within a longer mile", x.loud(0), 2);
        x.mend(2, 0, 0x70);
        check.due("8: neighbours where they stand", x.loud(0), 1);
        x.person(0x10);
        check.due("8: neighbours who come", x.loud(0), 2);
    }
}
