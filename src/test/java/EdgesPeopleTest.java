/** The sentences of the document that name an edge: term 1, promises 1 to 8. */
public final class EdgesPeopleTest {
    private static final int MIN = Integer.MIN_VALUE, MAX = Integer.MAX_VALUE;
    private static final Check check = new Check("EdgesPeopleTest");

    public static void main(String[] args) {
        use();
        ownMemory();
        cells();
        numbers();
        parishNumbers();
        atFirst();
        person();
        peopleFromRow();
        mendRefuses();
        tape();
        lines();
        digitsAndBlanks();
        names();
        nearNeighbours();
        open();
        wrapping();
        division();
        truth();
        countingLine();
        faults();
        held();
        withoutText();
        lawAndTape();
        check.end();
    }

    private static int loudBy(String text) {
        BeesSting x = Check.parish(0);
        check.due("law of " + text, Check.law(x, text), 1);
        return x.loud(0);
    }

    private static void worth(String text, int want) {
        check.due("loud by " + text, loudBy(text), want);
    }

    private static void fault(String text, int place) {
        check.due("law of " + text, Check.law(Check.parish(0), text), -100 - place);
    }

    private static void use() {
        check.says("An object is used for at most 512 calls after it has been made");
        BeesSting x = new BeesSting();
        for (int i = 1; i <= 511; i++) {
            x.mend(0, 6, i % 24);
        }
        check.due("call 512", x.count(2), 40);
        BeesSting y = Check.parish(0);
        for (int i = 2; i <= 511; i++) {
            y.say(0, 1);
        }
        check.due("call 512, behind 510 sayings", y.led(3), 510);
    }

    private static void ownMemory() {
        check.says("All memory is the class's own.");
        BeesSting full = Check.parish(1, 2, 3, 4, 5, 6, 7, 8);
        BeesSting x = Check.parish(0);
        for (int i = 0; i < 120; i++) {
            full.feed('7');
        }
        Check.law(x, "5");
        full.mend(0, 0, 99);
        full.say(1, 1);
        full.image();
        full.body(3);
        full.act(0, 3, 1);
        full.row(0, 0, 3);
        check.due("people", x.count(0), 1);
        check.due("the tape", x.count(1), 0);
        check.due("the law", x.loud(0), 5);
        check.due("changes", x.undo(), -5);
        check.due("sayings", x.led(0), 0);
        check.due("the image", x.back(), -5);
        check.due("bodies", x.count(3), 0);
        check.due("the trace", x.trace(0), -1);
        check.due("the shelf", x.put(0, 0, 1), -11);
        check.due("the other's law", full.loud(1) == 5 ? 1 : 0, 0);
        check.due("the other's tape", full.count(1), 120);
    }

    private static void cells() {
        check.says("CELLS are 16 Y and X (X, Y 0 .. 15).");
        BeesSting x = Check.parish(0, 15, 240, 255);
        x.mend(0, 5, 14);
        check.due("14 around cell 0", x.reach(), 1);
        x.mend(0, 5, 15);
        check.due("15 around cell 0", x.reach(), 7);
        x.mend(0, 5, 20);
        check.due("20 around cell 0", x.reach(), 7);
        Check.law(x, "d");
        check.due("from corner to corner", x.loud(3), 30);
        x.mend(0, 4, 255);
        check.due("and back", x.loud(0), 30);
        x.mend(0, 4, 15);
        check.due("along Y", x.loud(3), 15);
        x.mend(0, 0, 16);
        check.due("cell 16 does not lie beside cell 15", x.loud(0), 16);
    }

    private static void numbers() {
        String[] said = {"CHEEK (0 .. 12; 6 at first)", "PADS (0 .. 9; 0 at first)", "PAY (0 .. 99 for one sting; 10 at first)"};
        int[] most = {12, 9, 99};
        int[] first = {6, 0, 10};
        for (int i = 0; i < 3; i++) {
            check.says(said[i]);
            BeesSting x = Check.parish(0);
            int what = i + 1;
            check.due("at first", x.of(0, what), first[i]);
            for (int v : new int[] {-1, most[i] + 1, MIN, MAX}) {
                check.due("mend to " + v, x.mend(0, what, v), -1);
            }
            check.due("refused ones change nothing", x.of(0, what), first[i]);
            check.due("the most", x.mend(0, what, most[i]), first[i]);
            check.due("the least", x.mend(0, what, 0), most[i]);
            check.due("it is the least", x.of(0, what), 0);
        }
    }

    private static void parishNumbers() {
        String[] said = {"It is in CELL 0 at first.", "MILE (1 .. 20; 8 at first)", "HOUR (0 .. 23; 8 at first)",
            "PACE (1 .. 9: how many CELLS a swarm flies an hour; 4 at first)"};
        int[] least = {0, 1, 0, 1};
        int[] most = {255, 20, 23, 9};
        int[] first = {0, 8, 8, 4};
        for (int i = 0; i < 4; i++) {
            check.says(said[i]);
            BeesSting x = new BeesSting();
            int what = i + 4;
            check.due("at first", x.of(0, what), first[i]);
            for (int v : new int[] {least[i] - 1, most[i] + 1, MIN, MAX}) {
                check.due("mend to " + v, x.mend(0, what, v), -1);
            }
            check.due("refused ones change nothing", x.of(0, what), first[i]);
            check.due("no change is kept of them", x.count(2), 0);
            check.due("the most", x.mend(0, what, most[i]), first[i]);
            check.due("the least", x.mend(0, what, least[i]), most[i]);
            check.due("it is the least", x.of(0, what), least[i]);
        }
    }

    private static void atFirst() {
        check.says("A parish, a swarm, nobody.");
        BeesSting x = new BeesSting();
        check.due("people", x.count(0), 0);
        check.due("reach", x.reach(), 0);
        check.due("nobody's number", x.of(0, 0), -1);
        check.due("the swarm's cell", x.led(6), 0);
        check.due("the liar", x.led(5), -2);
        check.due("no image", x.back(), -5);
        check.due("no law", x.person(0) + x.loud(0), 7);
    }

    private static void person() {
        check.says("PEOPLE 0 .. 7, as they come");
        BeesSting x = new BeesSting();
        for (int i = 0; i < 8; i++) {
            check.due("of one who is yet to come", x.of(i, 0), -1);
            check.due("person", x.person(255 - i), i);
            check.due("his cell", x.of(i, 0), 255 - i);
        }
        check.says("One in a CELL: its number. BAD, FULL: 8.");
        check.due("a ninth", x.person(0), -3);
        check.due("a ninth in no cell", x.person(-1), -1);
        check.due("how many", x.count(0), 8);
        check.due("nobody is number 8", x.of(8, 0), -1);
        BeesSting y = new BeesSting();
        for (int cell : new int[] {-1, 256, MIN, MAX}) {
            check.due("person in " + cell, y.person(cell), -1);
        }
        check.due("nobody came", y.count(0), 0);
        check.due("cell 0", y.person(0), 0);
        check.due("cell 255", y.person(255), 1);
    }

    private static void peopleFromRow() {
        check.says("it ends where the row is missing, ends (within a three, too), one is not as it may be, or PEOPLE are FULL: "
            + "those ahead came.");
        BeesSting x = new BeesSting();
        check.due("no row", x.people(0, 0, 8), 0);
        x.row(0, 1, 0);
        check.due("a row of none", x.people(0, 0, 8), 0);
        x.row(0, 1, 2);
        check.due("a row of two", x.people(0, 0, 8), 0);
        x.row(0, 1, 5);
        check.due("ends within the second", x.people(0, 0, 8), 1);
        check.due("ends within the first", x.people(0, 3, 8), 0);
        Check.row(x, 0, 1, 255, 12, 9, 0, 0, 10, 1, 1, 1);
        check.due("the second may not be", x.people(0, 0, 8), 1);
        check.due("as he was told: cell", x.of(1, 0), 255);
        check.due("as he was told: cheek", x.of(1, 1), 12);
        check.due("as he was told: pads", x.of(1, 2), 9);
        check.due("and pay as at first", x.of(1, 3), 10);
        x.row(0, 1, 60);
        check.due("until full", x.people(0, 0, 8), 6);
        check.due("full", x.people(0, 0, 8), 0);
        check.due("they came", x.count(0), 8);
        check.says("from place i on, n (1 .. 8) of them: how many came (0 with i below 0). BAD, -12 "
            + "(no ROW of shorts; a SHELF that holds nothing is missing).");
        BeesSting y = new BeesSting();
        y.row(0, 1, 60);
        for (int n : new int[] {0, 9, -1, MIN, MAX}) {
            check.due("n " + n, y.people(0, 0, n), -1);
        }
        check.due("shelf -1", y.people(-1, 0, 1), -1);
        check.due("shelf 6", y.people(6, 0, 1), -1);
        check.due("i below 0", y.people(0, -1, 1), 0);
        check.due("i MIN", y.people(0, MIN, 8), 0);
        check.due("i MAX", y.people(0, MAX, 8), 0);
        check.due("i at the end", y.people(0, 60, 1), 0);
        check.due("the last two places", y.people(0, 58, 1), 0);
        check.due("the last three places", y.people(0, 57, 8), 1);
        check.due("n 1", y.people(0, 0, 1), 1);
        check.due("nothing is missing, no refusal", y.people(1, 0, 1), 0);
        for (int sort : new int[] {0, 2, 3, 4}) {
            y.row(2, sort, 6);
            check.due("a row of sort " + sort, y.people(2, 0, 1), -12);
        }
        y.body(0);
        y.keep(2, 0);
        check.due("a body", y.people(2, 0, 1), -12);
        check.due("two came", y.count(0), 2);
    }

    private static void mendRefuses() {
        check.says("PACE (7; number 0 for these, another: BAD) becomes v: what it was. BAD.");
        BeesSting x = Check.parish(1, 2, 3);
        for (int what = 4; what <= 7; what++) {
            for (int number : new int[] {-1, 1, 2, 3, MIN, MAX}) {
                check.due("mend " + number + " " + what, x.mend(number, what, 1), -1);
                check.due("of " + number + " " + what, x.of(number, what), -1);
            }
        }
        check.says("As of mend() (0 to 7). BAD.");
        for (int what = 0; what <= 3; what++) {
            for (int number : new int[] {-1, 3, MIN, MAX}) {
                check.due("of " + number + " " + what, x.of(number, what), -1);
                check.due("mend " + number + " " + what, x.mend(number, what, 0), -1);
            }
            check.due("of the last one", x.of(2, what) >= 0 ? 1 : 0, 1);
        }
        for (int what : new int[] {-1, 8, MIN, MAX}) {
            check.due("of what " + what, x.of(0, what), -1);
            check.due("mend what " + what, x.mend(0, what, 1), -1);
        }
        check.says("CELL (what 0), CHEEK (1), PADS (2), PAY (3) of one, the swarm's CELL (4), MILE (5), HOUR (6)");
        int[] becomes = {255, 12, 9, 99, 255, 20, 23, 9};
        int[] was = {3, 6, 0, 10, 0, 8, 8, 4};
        for (int what = 0; what <= 7; what++) {
            int number = what < 4 ? 2 : 0;
            check.due("what it was, " + what, x.mend(number, what, becomes[what]), was[what]);
            check.due("what it is, " + what, x.of(number, what), becomes[what]);
            check.due("no refused one is kept", x.count(2), what + 1);
        }
    }

    private static void tape() {
        check.says("A byte (0 .. 255) comes to THE TAPE: how many it has. BAD, FULL (120).");
        BeesSting x = Check.parish(0);
        for (int letter : new int[] {-1, 256, MIN, MAX}) {
            check.due("feed " + letter, x.feed(letter), -1);
        }
        check.due("none of them came", x.count(1), 0);
        check.due("byte 0", x.feed(0), 1);
        check.due("byte 255", x.feed(255), 2);
        x.law();
        check.says("a TEXT by THE TAPE (at most 120 bytes)");
        String text = "1+".repeat(59) + "10";
        for (int i = 0; i < 120; i++) {
            check.due("byte " + i, x.feed(text.charAt(i)), i + 1);
        }
        check.due("byte 120", x.feed('9'), -3);
        check.due("no byte, when full", x.feed(256), -1);
        check.due("how many", x.count(1), 120);
        check.due("120 bytes are a text", x.law(), 1);
        check.due("byte 120 did not come", x.loud(0), 69);
        check.due("the tape takes bytes again", x.feed('1'), 1);
    }

    private static void lines() {
        check.says("LINES, one or more, parted by ;");
        fault("", 0);
        fault(";", 0);
        fault(";1", 0);
        fault("1;", 2);
        fault("1;;2", 2);
        worth("1", 1);
        worth("1;2", 1);
        worth("0?1;".repeat(29) + "7", 7);
        worth("0;".repeat(59) + "11", 0);
        check.says("LINE: E, or E ? E");
        fault("?1", 0);
        fault("1?", 2);
        fault("1??2", 2);
        fault("1?2?3", 3);
        fault("1?;2", 2);
        worth("1?2", 2);
    }

    private static void digitsAndBlanks() {
        check.says("a number (1 to 4 digits)");
        worth("9", 9);
        worth("09", 9);
        worth("009", 9);
        worth("0009", 9);
        worth("9999/101", 99);
        worth("0000", 0);
        fault("00009", 4);
        fault("12345", 4);
        fault("1+99999", 6);
        check.says("No blanks.");
        fault(" 1", 0);
        fault("1 ", 1);
        fault("1 +1", 1);
        fault("1+ 1", 2);
        fault("1\n", 1);
        fault("( 1)", 1);
        fault("1 2", 1);
    }

    private static void names() {
        check.says("NAMES: c CHEEK of who lies, g PADS of him, d how far he is from where the swarm is (X and Y apart together)");
        BeesSting x = Check.parish(0);
        Check.law(x, "c+20*(g+1)");
        check.due("c 6, g 0", x.loud(0), 26);
        x.mend(0, 1, 0);
        check.due("c 0", x.loud(0), 20);
        x.mend(0, 1, 12);
        x.mend(0, 2, 3);
        check.due("c 12, g 3", x.loud(0), 92);
        Check.law(x, "d");
        check.due("d 0", x.loud(0), 0);
        fault("C", 0);
        fault("cg", 1);
        fault("c1", 1);
        fault("a", 0);
        check.says("h HOUR (as the saying comes, round the day)");
        BeesSting y = Check.parish(255);
        y.mend(0, 6, 23);
        Check.bytes(y, 0, 1, 1, 1);
        Check.law(y, "h=23");
        check.due("23", y.day(0, 24, 2), 1);
        Check.law(y, "h=0");
        check.due("0 behind 23", y.day(0, 24, 2), 2);
        Check.law(y, "h=24");
        check.due("never 24", y.day(0, 24, 2), 0);
        check.says("n how many lies have been told ahead of it (in thought, from 0; in deed as LED)");
        Check.law(y, "n=0|n=3");
        for (int lie = 1; lie <= 4; lie++) {
            check.due("in thought", y.loud(0), 1);
            check.due("in thought, by day", y.day(0, 24, 2), 1);
            y.say(0, 1);
            check.due("in deed", y.led(2), lie < 4 ? 1 : 2);
        }
    }

    private static void nearNeighbours() {
        check.says("k how many are within a MILE of him (himself, too)");
        BeesSting x = Check.parish(0x88);
        Check.law(x, "k");
        check.due("alone", x.loud(0), 1);
        x.person(0x80);
        check.due("a mile off", x.loud(0), 2);
        x.person(0x0F);
        check.due("more than a mile off", x.loud(0), 2);
        x.mend(2, 0, 0x0C);
        check.due("more than a mile off by X and Y together", x.loud(0), 2);
        x.mend(2, 0, 0x4C);
        check.due("a mile off by X and Y together", x.loud(0), 3);
        for (int i = 3; i < 8; i++) {
            x.person(0x88);
        }
        check.due("all eight", x.loud(0), 8);
        x.mend(0, 5, 1);
        check.due("within the least mile", x.loud(0), 6);
    }

    private static void open() {
        check.says("At most 6 of ( ! - ahead of an O are open at once.");
        worth("((((((5))))))", 5);
        worth("!!!!!!5", 1);
        worth("------5", 5);
        worth("(-(-(!0)))+4", 5);
        fault("(((((((5", 6);
        fault("!!!!!!!5", 6);
        fault("-------5", 6);
        fault("(!-(!-(5", 6);
        fault("((((((-5", 6);
        fault("((((((!5", 6);
        fault("------(5", 6);
        worth("((((((5))))))*((((((3))))))", 15);
        worth("------5-------3", 2);
        worth("1?((((((5))))))", 5);
        worth("0?((((((5))))));------3", 3);
        worth("((((((1))))))?8", 8);
        fault("1?(((((((5", 8);
        fault("1;(((((((5", 8);
        fault("((((((5))))))*(((((((5", 20);
        worth("(((((5-2+(1))))))", 4);
        fault("(((((5-2+((", 10);
        fault("((((((5-2+(", 10);
    }

    private static void wrapping() {
        check.says("Ints that wrap");
        worth("4096*4096*128<0", 1);
        worth("4096*4096*128-1>0", 1);
        worth("-(4096*4096*128)<0", 1);
        worth("4096*4096*256=0", 1);
        worth("4096*4096*128/-1=4096*4096*128", 1);
        worth("4096*4096*128%-1=0", 1);
        worth("4096*4096*128+4096*4096*128+6", 6);
        worth("(9999*9999*9999%97+97)%97", (9999 * 9999 * 9999 % 97 + 97) % 97);
    }

    private static void division() {
        check.says("/ and % toward 0, by 0 they give 0");
        worth("7/2", 3);
        worth("-7/2+10", 7);
        worth("7/-2+10", 7);
        worth("-7/-2", 3);
        worth("7%3", 1);
        worth("-7%3+10", 9);
        worth("7%-3", 1);
        worth("-7%-3+10", 9);
        worth("7/0+4", 4);
        worth("7%0+4", 4);
        worth("0/0+4", 4);
        worth("0%0+4", 4);
        worth("7/(3-3)+7%(3-3)+5", 5);
        worth("1/7", 0);
        check.due("by a name that is 0", loudBy("7/g+7%d+3"), 3);
    }

    private static void truth() {
        check.says("| & < = > ! give 1, 0; all is worked out.");
        int[][] pairs = {{0, 0}, {0, 7}, {7, 0}, {7, 9}, {9, 7}, {7, 7}, {-1, 0}, {0, -1}, {-1, -1}, {-1, 1}, {1, -1}};
        for (int[] two : pairs) {
            int a = two[0];
            int b = two[1];
            String left = "((" + (a < 0 ? "0-1" : a) + ")";
            String right = "(" + (b < 0 ? "0-1" : b) + "))+5";
            worth(left + "|" + right, a != 0 || b != 0 ? 6 : 5);
            worth(left + "&" + right, a != 0 && b != 0 ? 6 : 5);
            worth(left + "<" + right, a < b ? 6 : 5);
            worth(left + "=" + right, a == b ? 6 : 5);
            worth(left + ">" + right, a > b ? 6 : 5);
        }
        worth("!0+5", 6);
        worth("!7+5", 5);
        worth("!(0-1)+5", 5);
        worth("!!9999+5", 6);
    }

    private static void countingLine() {
        check.says("The first LINE without a first E, or whose first E is not 0, counts; none: 0.");
        worth("0?6", 0);
        worth("0?6;0?7", 0);
        worth("0?6;4", 4);
        worth("0-1?6;4", 6);
        worth("9?6;4", 6);
        worth("0;6", 0);
        worth("5;6", 5);
        worth("0?1;0?2;3?4;5", 4);
        worth("1?0;6", 0);
    }

    private static void faults() {
        check.says("FAULT: the place (from 0) of the first byte with which no TEXT goes on; the length, if it ends too early.");
        fault("x", 0);
        fault(")", 0);
        fault("1)", 1);
        fault("()", 1);
        fault("(1;", 2);
        fault("(1?", 2);
        fault("1(", 1);
        fault("1!", 1);
        fault("1<2<3", 3);
        fault("1=2=3", 3);
        fault("(1<2<", 4);
        fault("" + (char) 0, 0);
        fault("1" + (char) 255, 1);
        fault("1" + (char) 128, 1);
        fault("1+".repeat(59) + "1x", 119);
        fault("1+".repeat(60), 120);
        fault("(", 1);
        fault("(1", 2);
        fault("-", 1);
        fault("1<", 2);
        fault("1;", 2);
        fault("1?2;", 4);
    }

    private static void held() {
        check.says("It gives how LOUD a lie is (held within 0 .. 99).");
        worth("98", 98);
        worth("99", 99);
        worth("100", 99);
        worth("9999", 99);
        worth("0", 0);
        worth("0-1", 0);
        worth("4096*4096*128", 0);
        worth("4096*4096*128-1", 99);
        check.says("A lie that is LOUD (more than 0) makes him THE LIAR (the latest); another one does not.");
        for (String text : new String[] {"0", "1", "0-9", "9999"}) {
            BeesSting x = Check.parish(255, 254);
            Check.law(x, text);
            int loud = text.equals("1") || text.equals("9999") ? 1 : 0;
            x.say(1, 1);
            check.due("the liar by " + text, x.led(5), loud == 1 ? 1 : -2);
            x.say(0, 1);
            check.due("the latest by " + text, x.led(5), loud == 1 ? 0 : -2);
            check.due("loud ones by " + text, x.led(2), 2 * loud);
            check.due("lies by " + text, x.led(1), 2);
        }
    }

    private static void withoutText() {
        check.says("Without a text: 10, and n, less d, less c by 2 (cut).");
        BeesSting x = Check.parish(0);
        for (int c = 0; c <= 12; c++) {
            x.mend(0, 1, c);
            check.due("c " + c, x.loud(0), 10 - c / 2);
        }
        x.mend(0, 1, 0);
        int[] cells = {0x00, 0x09, 0x0A, 0x0B, 0x28, 0xFF};
        int[] louds = {10, 1, 0, 0, 0, 0};
        for (int i = 0; i < cells.length; i++) {
            x.go(0, cells[i]);
            check.due("in cell " + cells[i], x.loud(0), louds[i]);
        }
        x.go(0, 0x0A);
        Check.bytes(x, 0, 1, 1, 0, 1);
        check.due("n 0, 1, 2 in thought", x.day(0, 24, 2), 2 | 8);
        x.say(0, 1);
        check.due("n 0 in deed", x.led(2), 0);
        x.say(0, 1);
        check.due("n 1 in deed", x.led(2), 1);
        check.says("of c by 2 that alone is cut");
        x.go(0, 0);
        x.mend(0, 1, 11);
        check.due("c 11", x.loud(0), 5);
        x.mend(0, 1, 1);
        check.due("c 1", x.loud(0), 10);
    }

    private static void lawAndTape() {
        check.says("THE TAPE becomes THE LAW: 1; -100 less its FAULT; THE TAPE is empty then.");
        BeesSting x = Check.parish(0);
        check.due("an empty tape", x.law(), -100);
        check.due("a law", Check.law(x, "42"), 1);
        check.due("the tape then", x.count(1), 0);
        check.due("an empty tape again", x.law(), -100);
        check.due("the law stays", x.loud(0), 42);
        check.due("a fault", Check.law(x, "4x"), -101);
        check.due("the tape then", x.count(1), 0);
        check.due("the law stays", x.loud(0), 42);
        check.due("another law", Check.law(x, "7"), 1);
        check.due("it is", x.loud(0), 7);
        check.says("How LOUD a lie of one would be now. BAD.");
        for (int one : new int[] {-1, 1, 8, MIN, MAX}) {
            check.due("loud " + one, x.loud(one), -1);
        }
        check.due("of nobody", new BeesSting().loud(0), -1);
    }
}
