import java.util.Random;

/** Runs of drawn calls, each answered by BeesSting and by SlowBees. */
public final class SlowTest {
    private static final Check check = new Check("SlowTest");
    private static final String LETTERS = "cgdhnk0123456789+-*/%<=>&|!()?;";
    private static final int RUNS = 300;

    private final Random random;
    private final BeesSting x = new BeesSting();
    private final SlowBees slow = new SlowBees();
    private int left = 512;

    private SlowTest(long seed) {
        random = new Random(seed);
    }

    public static void main(String[] args) {
        int runs = args.length > 0 ? Integer.parseInt(args[0]) : RUNS;
        for (int run = 0; run < runs; run++) {
            new SlowTest(run).run(run % 3);
        }
        check.end();
    }

    /** Mostly a small number; at times one at an edge or far off. */
    private int about(int most) {
        int[] far = {-1, -2, most, most + 1, most + 2, Integer.MAX_VALUE, Integer.MIN_VALUE};
        return random.nextInt(25) == 0 ? far[random.nextInt(far.length)] : random.nextInt(Math.max(1, most));
    }

    private int cell() {
        return random.nextInt(25) == 0 ? about(256) : 16 * random.nextInt(random.nextInt(3) == 0 ? 16 : 6) + random.nextInt(8);
    }

    private void due(String call, long got, long want) {
        left--;
        check.due(call, got, want);
    }

    private void run(int sort) {
        int people = sort == 2 ? 8 : random.nextInt(6);
        for (int i = 0; i < people; i++) {
            int c = cell();
            due("person " + c, x.person(c), slow.person(c));
        }
        while (left > 0) {
            switch (random.nextInt(5)) {
                case 0: feedOrRow(); break;
                case 1: tellNumbers(); break;
                case 2: think(); break;
                case 3: inDeed(); break;
                default: acts(); break;
            }
        }
    }

    private void feedOrRow() {
        switch (random.nextInt(12)) {
            case 0: feedLaw(); break;
            case 1: people(); break;
            case 2: case 3: {
                int c = cell();
                due("person " + c, x.person(c), slow.person(c));
                break;
            }
            default: bytes(); break;
        }
    }

    private void feedLaw() {
        String text = random.nextInt(3) == 0 ? drawnText() : either(3);
        if (random.nextInt(3) == 0) {
            text = text + "?" + either(2) + ";" + either(2);
        }
        if (random.nextInt(6) == 0 && text.length() > 0) {
            int at = random.nextInt(text.length());
            text = text.substring(0, at) + LETTERS.charAt(random.nextInt(LETTERS.length())) + text.substring(at);
        }
        text = text.length() > 32 ? text.substring(0, 32) : text;
        for (int i = 0; i < text.length(); i++) {
            int letter = text.charAt(i);
            due("feed " + letter, x.feed(letter), slow.feed(letter));
        }
        due("law " + text, x.law(), slow.law());
    }

    private String drawnText() {
        StringBuilder b = new StringBuilder();
        int length = random.nextInt(9);
        for (int i = 0; i < length; i++) {
            b.append(LETTERS.charAt(random.nextInt(LETTERS.length())));
        }
        return b.toString();
    }

    private String either(int deep) {
        if (deep == 0 || random.nextInt(4) == 0) {
            return random.nextBoolean() ? "" + "cgdhnk".charAt(random.nextInt(6)) : "" + random.nextInt(30);
        }
        switch (random.nextInt(6)) {
            case 0: return "(" + either(deep - 1) + ")";
            case 1: return (random.nextBoolean() ? "!" : "-") + either(deep - 1);
            default: return either(deep - 1) + "+-*/%<=>&|".charAt(random.nextInt(10)) + either(deep - 1);
        }
    }

    private void people() {
        int shelf = about(6);
        int n = random.nextInt(20);
        due("row", x.row(shelf, 1, n), slow.row(shelf, 1, n));
        for (int i = 0; i < n; i++) {
            int v = i % 3 == 0 ? cell() : about(i % 3 == 1 ? 13 : 10);
            due("put", x.put(shelf, i, v), slow.put(shelf, i, v));
        }
        int from = about(5);
        int many = 1 + about(8);
        due("people", x.people(shelf, from, many), slow.people(shelf, from, many));
    }

    private void bytes() {
        int shelf = about(3);
        int n = random.nextInt(6) == 0 ? random.nextInt(30) : random.nextInt(8);
        due("row", x.row(shelf, 0, n), slow.row(shelf, 0, n));
        int who = Math.max(1, x.count(0));
        for (int i = 0; i < n; i++) {
            int v = random.nextInt(40) == 0 ? about(256) : 2 * random.nextInt(who) + (random.nextInt(4) == 0 ? 0 : 1);
            due("put", x.put(shelf, i, v), slow.put(shelf, i, v));
        }
        if (random.nextInt(3) == 0) {
            told(shelf);
        }
    }

    /** What would have been seen behind the day's sayings, now and then with a fault. */
    private void told(int day) {
        int n = random.nextInt(5);
        due("row", x.row(3, 0, n), slow.row(3, 0, n));
        for (int i = 0; i < n; i++) {
            int at = x.day(day, i + 1, 1);
            int who = 8;
            for (int q = 7; q >= 0; q--) {
                who = x.of(q, 0) == at ? q : who;
            }
            who = random.nextInt(12) == 0 ? about(10) : who;
            due("put", x.put(3, i, who), slow.put(3, i, who));
        }
        for (int what = 0; what < 4; what++) {
            due("heard " + what, x.heard(day, 3, what), slow.heard(day, 3, what));
        }
    }

    private void tellNumbers() {
        int[] most = {256, 13, 10, 100, 256, 21, 24, 10};
        for (int i = 0; i < 3; i++) {
            int what = about(8);
            int number = what > 3 && random.nextInt(9) > 0 ? 0 : about(x.count(0));
            int v = what >= 0 && what < 8 ? what % 4 == 0 ? cell() : about(most[what]) : about(5);
            due("mend " + number + " " + what + " " + v, x.mend(number, what, v), slow.mend(number, what, v));
            due("of " + number + " " + what, x.of(number, what), slow.of(number, what));
        }
        for (int i = random.nextInt(4); i > 0; i--) {
            due("undo", x.undo(), slow.undo());
        }
        for (int i = random.nextInt(3); i > 0; i--) {
            due("redo", x.redo(), slow.redo());
        }
    }

    private void think() {
        int shelf = about(random.nextInt(8) == 0 ? 6 : 3);
        int one = about(x.count(0));
        int what = about(3);
        int two = about(2);
        int n = about(25);
        int k = random.nextInt(9) == 0 ? about(9) : random.nextInt(9) - 2;
        int ab = 10 * about(x.count(0)) + about(x.count(0) + 1);
        int turns = 1 + about(6);
        int other = about(5);
        due("loud " + one, x.loud(one), slow.loud(one));
        due("day " + shelf + " " + n, x.day(shelf, n, what), slow.day(shelf, n, what));
        due("stung " + shelf + " " + n, x.stung(shelf, n, one, what), slow.stung(shelf, n, one, what));
        due("reach", x.reach(), slow.reach());
        due("soon " + one, x.soon(one), slow.soon(one));
        due("passOn " + shelf + " " + one, x.passOn(shelf, one, two), slow.passOn(shelf, one, two));
        due("lastWord " + ab + " " + turns, x.lastWord(ab, turns, two), slow.lastWord(ab, turns, two));
        due("crier " + one, x.crier(one, two), slow.crier(one, two));
        due("keepNear " + one, x.keepNear(one), slow.keepNear(one));
        if (random.nextInt(4) == 0) {
            due("stand " + shelf + " " + one, x.stand(shelf, one, two), slow.stand(shelf, one, two));
            int nm = 100 * (1 + about(30)) + 1 + about(40);
            int seed = random.nextInt();
            int whom = random.nextInt(3) == 0 ? -1 : one;
            due("drawn " + seed + " " + nm + " " + whom, x.drawn(seed, nm, whom), slow.drawn(seed, nm, whom));
        }
        if (random.nextInt(5) == 0) {
            due("orders " + shelf + " " + k, x.orders(shelf, k), slow.orders(shelf, k));
        }
        if (random.nextInt(6) == 0) {
            due("heard " + shelf + " " + other, x.heard(shelf, other, what), slow.heard(shelf, other, what));
        }
    }

    private void inDeed() {
        for (int i = 0; i < 5; i++) {
            int one = about(x.count(0));
            int lie = about(2);
            int c = cell();
            int what = about(7);
            due("say " + one + " " + lie, x.say(one, lie), slow.say(one, lie));
            switch (random.nextInt(5)) {
                case 0: due("go " + one + " " + c, x.go(one, c), slow.go(one, c)); break;
                case 1: due("pad " + one, x.pad(one), slow.pad(one)); break;
                case 2: due("image", x.image(), slow.image()); break;
                case 3: due("back", x.back(), slow.back()); break;
                default: break;
            }
            due("led " + what, x.led(what), slow.led(what));
        }
    }

    private void acts() {
        int kind = about(8);
        int body = about(x.count(3));
        int act = about(4);
        int v = random.nextBoolean() ? about(9) : random.nextInt();
        int shelf = about(6);
        int other = about(6);
        int sort = about(5);
        int n = about(61);
        int i = about(9);
        int j = about(9);
        int many = about(6);
        due("body " + kind, x.body(kind), slow.body(kind));
        due("act " + body + " " + act + " " + v, x.act(body, act, v), slow.act(body, act, v));
        due("trace " + i, x.trace(i), slow.trace(i));
        if (random.nextInt(3) == 0) {
            due("keep " + shelf + " " + body, x.keep(shelf, body), slow.keep(shelf, body));
        }
        if (random.nextInt(3) == 0) {
            due("row " + other + " " + sort + " " + n, x.row(other, sort, n), slow.row(other, sort, n));
        }
        long w = random.nextLong() >> random.nextInt(64);
        due("put " + other + " " + i, x.put(other, i, w), slow.put(other, i, w));
        due("shift", x.shift(shelf, i, other, j, many), slow.shift(shelf, i, other, j, many));
        due("element " + shelf + " " + j, x.element(shelf, j), slow.element(shelf, j));
        due("taken " + shelf + " " + kind, x.taken(shelf, kind), slow.taken(shelf, kind));
        int what = about(5);
        due("count " + what, x.count(what), slow.count(what));
    }
}
