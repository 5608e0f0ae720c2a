import java.lang.reflect.Array;
import java.util.ArrayList;
import java.util.Collections;
import java.util.List;
import java.util.TreeMap;

/** A second BeesSting, plain and slow: every thought is a copy of the whole parish, every search tries all. */
final class SlowBees {
    private static final class Person {
        int cell, cheek = 6, pads, pay = 10;
        Person copy() {
            Person p = new Person();
            p.cell = cell; p.cheek = cheek; p.pads = pads; p.pay = pay;
            return p;
        }
    }

    private static final class World {
        final List<Person> people = new ArrayList<>();
        int mile = 8, hour = 8, pace = 4, swarm, liar = -2;
        int[] led = new int[5];
        String law;

        World copy() {
            World w = new World();
            for (Person p : people) w.people.add(p.copy());
            w.mile = mile; w.hour = hour; w.pace = pace; w.swarm = swarm; w.liar = liar; w.law = law;
            w.led = led.clone();
            return w;
        }

        World thought() {
            World w = copy();
            w.led = new int[5];
            return w;
        }

        static int far(int a, int b) {
            return Math.abs(a % 16 - b % 16) + Math.abs(a / 16 - b / 16);
        }

        int loud(int one) {
            Person p = people.get(one);
            int d = far(p.cell, swarm);
            int k = 0;
            for (Person q : people) if (far(q.cell, p.cell) <= mile) k++;
            int raw = law == null ? 10 + led[1] - d - p.cheek / 2
                : SlowLaw.worth(law, new int[] {p.cheek, p.pads, d, hour, led[1], k});
            return Math.max(0, Math.min(99, raw));
        }

        int say(int one, boolean lie) {
            led[0]++;
            if (lie) {
                boolean isLoud = loud(one) > 0;
                led[1]++;
                if (isLoud) {
                    led[2]++;
                    liar = one;
                }
            }
            return hourGoes();
        }

        int hourGoes() {
            hour = (hour + 1) % 24;
            if (liar < 0) return -2;
            Person p = people.get(liar);
            if (far(p.cell, swarm) > mile) return -2;
            for (int step = 0; step < pace; step++) {
                int dx = p.cell % 16 - swarm % 16;
                int dy = p.cell / 16 - swarm / 16;
                if (dx != 0) swarm += Integer.signum(dx);
                else if (dy != 0) swarm += 16 * Integer.signum(dy);
            }
            if (swarm != p.cell) return -2;
            led[3]++;
            if (p.pads == 0) led[4]++;
            p.pads = Math.max(0, p.pads - 1);
            int was = liar;
            liar = -2;
            return was;
        }
    }

    private static final class Shelf {
        Object held;
    }

    private World w = new World();
    private String tape = "";
    private World image;
    private final List<int[]> changes = new ArrayList<>();
    private final List<int[]> undone = new ArrayList<>();
    private final List<SlowBodies.Bee> bodies = new ArrayList<>();
    private final List<Integer> trace = new ArrayList<>();
    private final Shelf[] shelves = {new Shelf(), new Shelf(), new Shelf(), new Shelf(), new Shelf(), new Shelf()};

    private boolean no(int one) {
        return one < 0 || one >= w.people.size();
    }

    private static boolean out(int v, int least, int most) {
        return v < least || v > most;
    }

    int person(int cell) {
        if (out(cell, 0, 255)) return -1;
        if (w.people.size() == 8) return -3;
        Person p = new Person();
        p.cell = cell;
        w.people.add(p);
        return w.people.size() - 1;
    }

    int people(int shelf, int i, int n) {
        if (out(shelf, 0, 5) || out(n, 1, 8)) return -1;
        Object held = shelves[shelf].held;
        if (held == null) return 0;
        if (!(held instanceof short[])) return -12;
        short[] row = (short[]) held;
        if (i < 0) return 0;
        int came = 0;
        for (long at = i; came < n; at += 3, came++) {
            if (at + 3 > row.length || w.people.size() == 8) break;
            int a = (int) at;
            if (out(row[a], 0, 255) || out(row[a + 1], 0, 12) || out(row[a + 2], 0, 9)) break;
            Person p = new Person();
            p.cell = row[a];
            p.cheek = row[a + 1];
            p.pads = row[a + 2];
            w.people.add(p);
        }
        return came;
    }

    private static final int[][] HELD = {{0, 255}, {0, 12}, {0, 9}, {0, 99}, {0, 255}, {1, 20}, {0, 23}, {1, 9}};

    int mend(int number, int what, int v) {
        int was = of(number, what);
        if (was == -1 || out(v, HELD[what][0], HELD[what][1])) return -1;
        if (was == v) return was;
        set(number, what, v);
        changes.add(new int[] {number, what, was, v});
        if (changes.size() > 40) changes.remove(0);
        undone.clear();
        return was;
    }

    private void set(int number, int what, int v) {
        if (what == 0) w.people.get(number).cell = v;
        if (what == 1) w.people.get(number).cheek = v;
        if (what == 2) w.people.get(number).pads = v;
        if (what == 3) w.people.get(number).pay = v;
        if (what == 4) w.swarm = v;
        if (what == 5) w.mile = v;
        if (what == 6) w.hour = v;
        if (what == 7) w.pace = v;
    }

    int of(int number, int what) {
        if (out(what, 0, 7) || (what < 4 ? no(number) : number != 0)) return -1;
        if (what == 4) return w.swarm;
        if (what == 5) return w.mile;
        if (what == 6) return w.hour;
        if (what == 7) return w.pace;
        Person p = w.people.get(number);
        return what == 0 ? p.cell : what == 1 ? p.cheek : what == 2 ? p.pads : p.pay;
    }

    int feed(int letter) {
        if (out(letter, 0, 255)) return -1;
        if (tape.length() == 120) return -3;
        tape += (char) letter;
        return tape.length();
    }

    int law() {
        int fault = SlowLaw.fault(tape);
        if (fault < 0) w.law = tape;
        tape = "";
        return fault < 0 ? 1 : -100 - fault;
    }

    int loud(int one) {
        return no(one) ? -1 : w.thought().loud(one);
    }

    private int rowFault(int shelf) {
        Object held = shelves[shelf].held;
        return held == null ? -11 : held instanceof byte[] ? 0 : -12;
    }

    private List<int[]> sayings(int shelf) {
        List<int[]> all = new ArrayList<>();
        for (byte b : (byte[]) shelves[shelf].held) {
            if (b < 0 || b / 2 >= w.people.size() || all.size() == 24) break;
            all.add(new int[] {b / 2, b % 2});
        }
        return all;
    }

    int day(int shelf, int n, int what) {
        if (out(shelf, 0, 5) || out(n, 0, 24) || out(what, 0, 2)) return -1;
        if (rowFault(shelf) != 0) return rowFault(shelf);
        World t = w.thought();
        int bits = 0;
        int i = 0;
        for (int[] s : sayings(shelf)) {
            if (i == n) break;
            if (s[1] == 1 && t.loud(s[0]) > 0) bits += 1 << i;
            t.say(s[0], s[1] == 1);
            i++;
        }
        return what == 0 ? t.liar : what == 1 ? t.swarm : bits;
    }

    int stung(int shelf, int n, int one, int what) {
        if (out(shelf, 0, 5) || out(n, 0, 24) || no(one) || out(what, 0, 2)) return -1;
        if (rowFault(shelf) != 0) return rowFault(shelf);
        World t = w.thought();
        int i = 0, times = 0, hurt = 0, first = -2;
        for (int[] s : sayings(shelf)) {
            if (i == n) break;
            int pads = t.people.get(one).pads;
            if (t.say(s[0], s[1] == 1) == one) {
                if (first == -2) first = i;
                times++;
                if (pads == 0) hurt++;
            }
            i++;
        }
        return what == 0 ? times : what == 1 ? hurt : first;
    }

    int reach() {
        int bits = 0;
        for (int i = 0; i < w.people.size(); i++) if (World.far(w.people.get(i).cell, w.swarm) <= w.mile) bits += 1 << i;
        return bits;
    }

    /** Behind how many true sayings who lies now is stung; 99: not by 24; -1: the lie is not loud. */
    private static int behind(World at, int one) {
        World t = at.copy();
        if (t.loud(one) == 0) return -1;
        if (t.say(one, true) == one) return 0;
        for (int i = 1; i <= 24; i++) if (t.hourGoes() == one) return i;
        return 99;
    }

    int soon(int one) {
        if (no(one)) return -1;
        int b = behind(w.thought(), one);
        return b == 99 || b == -1 ? -2 : b;
    }

    int passOn(int shelf, int one, int what) {
        if (out(shelf, 0, 5) || no(one) || out(what, 0, 1)) return -1;
        if (rowFault(shelf) != 0) return rowFault(shelf);
        World t = w.thought();
        for (int[] s : sayings(shelf)) t.say(s[0], s[1] == 1);
        t.liar = one;
        int who = -2, best = -2;
        for (int q = t.people.size() - 1; q >= 0; q--) {
            int b = behind(t, q);
            if (q == one || b < 0) continue;
            b = Math.min(b, 24);
            if (b >= best) {
                best = b;
                who = q;
            }
        }
        return what == 0 ? who : best;
    }

    private static void permute(List<Integer> left, List<Integer> taken, List<List<Integer>> all) {
        if (left.isEmpty()) all.add(new ArrayList<>(taken));
        for (int i = 0; i < left.size(); i++) {
            List<Integer> rest = new ArrayList<>(left);
            taken.add(rest.remove(i));
            permute(rest, taken, all);
            taken.remove(taken.size() - 1);
        }
    }

    int orders(int shelf, int k) {
        if (out(shelf, 0, 5) || k < -2) return -1;
        if (rowFault(shelf) != 0) return rowFault(shelf);
        List<int[]> said = sayings(shelf);
        if (said.size() > 7) return -5;
        if (k >= said.size()) return -2;
        List<Integer> places = new ArrayList<>();
        for (int i = 0; i < said.size(); i++) places.add(i);
        List<List<Integer>> all = new ArrayList<>();
        permute(places, new ArrayList<>(), all);
        int quiet = 0, fewest = 999;
        List<Integer> best = null;
        for (List<Integer> order : all) {
            World t = w.thought();
            for (int place : order) t.say(said.get(place)[0], said.get(place)[1] == 1);
            if (t.led[4] == 0) quiet++;
            if (t.led[4] < fewest) {
                fewest = t.led[4];
                best = order;
            }
        }
        return k == -1 ? fewest : k == -2 ? quiet : best.get(k);
    }

    int stand(int shelf, int one, int what) {
        if (out(shelf, 0, 5) || no(one) || out(what, 0, 1)) return -1;
        if (rowFault(shelf) != 0) return rowFault(shelf);
        List<Integer> good = new ArrayList<>();
        for (int cell = 0; cell < 256; cell++) {
            World t = w.thought();
            t.people.get(one).cell = cell;
            boolean spared = true;
            for (int[] s : sayings(shelf)) spared &= t.say(s[0], s[1] == 1) != one;
            if (spared) good.add(cell);
        }
        return what == 1 ? good.size() : good.isEmpty() ? -2 : good.get(0);
    }

    /** Who is stung, and what is done at this turn: bits, and 4 if a lie is told. */
    private static int talk(World at, int a, int b, int turn, int n, int soFar) {
        if (turn == n) {
            World t = at.copy();
            int bits = soFar;
            for (int i = 0; i < 4; i++) {
                int s = t.hourGoes();
                bits |= s == a ? 1 : s == b ? 2 : 0;
            }
            return bits;
        }
        int own = turn % 2 == 0 ? 1 : 2;
        int best = -1, bestIs = -1;
        for (int lie = 0; lie < 2; lie++) {
            World t = at.copy();
            int s = t.say(own == 1 ? a : b, lie == 1);
            int end = talk(t, a, b, turn + 1, n, soFar | (s == a ? 1 : s == b ? 2 : 0)) & 3;
            int rank = (end & own) != 0 ? (end & 3 - own) != 0 ? 1 : 0 : (end & 3 - own) != 0 ? 3 : 2;
            if (rank > bestIs) {
                bestIs = rank;
                best = end + 4 * lie;
            }
        }
        return best;
    }

    int lastWord(int ab, int n, int what) {
        if (ab < 0 || no(ab / 10) || no(ab % 10) || ab / 10 == ab % 10 || out(n, 1, 6) || out(what, 0, 1)) return -1;
        int end = talk(w.thought(), ab / 10, ab % 10, 0, n, 0);
        return what == 0 ? end & 3 : end >> 2;
    }

    int crier(int one, int what) {
        if (no(one) || out(what, 0, 1)) return -1;
        TreeMap<Integer, Integer> byPay = new TreeMap<>();
        for (int q = 0; q < w.people.size(); q++) {
            Person p = w.people.get(q);
            if (q == one || (reach() >> q) % 2 == 0) continue;
            byPay.putIfAbsent(p.pads > 0 ? p.pay / 2 : p.pay, q);
        }
        return byPay.isEmpty() ? -2 : what == 0 ? byPay.firstEntry().getValue() : byPay.firstKey();
    }

    int keepNear(int one) {
        if (no(one)) return -1;
        List<Integer> keys = new ArrayList<>();
        for (int q = 0; q < w.people.size(); q++) {
            Person p = w.people.get(q);
            if (q != one) keys.add(World.far(p.cell, w.people.get(one).cell) * 1000 + p.cheek * 10 + q);
        }
        return keys.isEmpty() ? -2 : Collections.min(keys) % 10;
    }

    int heard(int day, int told, int what) {
        if (out(day, 0, 5) || out(told, 0, 5) || out(what, 0, 3)) return -1;
        int fault = Math.max(rowFault(day) == 0 ? -99 : rowFault(day), rowFault(told) == 0 ? -99 : rowFault(told));
        if (fault != -99) return fault;
        List<int[]> said = sayings(day);
        if (said.size() > 12) return -5;
        byte[] seen = (byte[]) shelves[told].held;
        List<Integer> fits = new ArrayList<>();
        for (int mask = 0; mask < 1 << said.size(); mask++) {
            World t = w.thought();
            boolean ok = true;
            for (int i = 0; i < said.size() && ok; i++) {
                t.say(said.get(i)[0], (mask >> i & 1) == 1);
                int who = 8;
                for (int q = w.people.size() - 1; q >= 0; q--) if (w.people.get(q).cell == t.swarm) who = q;
                ok = i >= seen.length || seen[i] == who;
            }
            if (ok) fits.add(mask);
        }
        if (what == 0) return fits.size();
        if (fits.isEmpty()) return what == 3 ? 0 : -2;
        int all = -1, best = fits.get(0);
        for (int mask : fits) {
            all &= mask;
            if (Integer.bitCount(mask) < Integer.bitCount(best)) best = mask;
        }
        return what == 1 ? Integer.bitCount(best) : what == 2 ? best : all;
    }

    int drawn(int seed, int nm, int one) {
        if (out(nm, 101, 3040) || out(nm % 100, 1, 40) || out(one, -1, w.people.size() - 1)) return -1;
        int z = seed, stings = 0, hurts = 0;
        for (int week = 0; week < nm / 100 && !w.people.isEmpty(); week++) {
            World t = w.thought();
            for (int i = 0; i < nm % 100; i++) {
                z = z * 1103515245 + 12345;
                int who = (z >>> 8) % t.people.size();
                if (t.say(who, (z >>> 16) % 12 < t.people.get(who).cheek) == one && one >= 0) stings++;
            }
            hurts += t.led[4];
        }
        return one == -1 ? hurts : stings;
    }

    int say(int one, int lie) {
        return no(one) || out(lie, 0, 1) ? -1 : w.say(one, lie == 1);
    }

    int go(int one, int cell) {
        if (no(one) || out(cell, 0, 255)) return -1;
        int was = w.people.get(one).cell;
        w.people.get(one).cell = cell;
        return was;
    }

    int pad(int one) {
        if (no(one)) return -1;
        Person p = w.people.get(one);
        p.pads = Math.min(9, p.pads + 1);
        return p.pads;
    }

    int led(int what) {
        return out(what, 0, 6) ? -1 : what < 5 ? w.led[what] : what == 5 ? w.liar : w.swarm;
    }

    int image() {
        image = w.copy();
        return w.led[0];
    }

    int back() {
        if (image == null) return -5;
        int liar = w.liar >= image.people.size() ? -2 : image.liar;
        for (int i = 0; i < image.people.size(); i++) {
            w.people.get(i).cell = image.people.get(i).cell;
            w.people.get(i).pads = image.people.get(i).pads;
        }
        w.hour = image.hour;
        w.swarm = image.swarm;
        w.led = image.led.clone();
        w.liar = liar;
        return w.led[0];
    }

    int undo() {
        if (changes.isEmpty()) return -5;
        int[] c = changes.remove(changes.size() - 1);
        undone.add(c);
        set(c[0], c[1], c[2]);
        return changes.size();
    }

    int redo() {
        if (undone.isEmpty()) return -5;
        int[] c = undone.remove(undone.size() - 1);
        changes.add(c);
        set(c[0], c[1], c[3]);
        return undone.size();
    }

    int body(int kind) {
        if (out(kind, 0, 7)) return -1;
        if (bodies.size() == 50) return -3;
        bodies.add(SlowBodies.make(kind, bodies.size()));
        return bodies.size() - 1;
    }

    int act(int body, int act, int x) {
        SlowBodies.TRACE.clear();
        int answer = 0;
        if (!out(body, 0, bodies.size() - 1) && !out(act, 0, 3)) {
            SlowBodies.Bee bee = bodies.get(body);
            answer = act == 0 ? bee.flies(x) : act == 1 ? bee.stings(x) : act == 2 ? bee.settles(x) : bee.tells(x);
        }
        trace.clear();
        trace.addAll(SlowBodies.TRACE);
        return answer;
    }

    int trace(int i) {
        return out(i, 0, Math.min(24, trace.size()) - 1) ? -1 : trace.get(i);
    }

    int keep(int shelf, int body) {
        if (out(shelf, 0, 5) || out(body, -1, bodies.size() - 1)) return -1;
        shelves[shelf].held = body == -1 ? null : bodies.get(body);
        return 1;
    }

    int row(int shelf, int sort, int n) {
        if (out(shelf, 0, 5) || out(sort, 0, 4) || n > 60) return -1;
        if (n < 0) return -14;
        Object[] rows = {new byte[n], new short[n], new int[n], new long[n], new boolean[n]};
        shelves[shelf].held = rows[sort];
        return 1;
    }

    private int placeFault(int shelf, int i) {
        if (out(shelf, 0, 5)) return -1;
        Object held = shelves[shelf].held;
        if (held == null) return -11;
        if (!held.getClass().isArray()) return -12;
        return out(i, 0, Array.getLength(held) - 1) ? -13 : 0;
    }

    int put(int shelf, int i, long v) {
        if (placeFault(shelf, i) != 0) return placeFault(shelf, i);
        Object held = shelves[shelf].held;
        if (held instanceof byte[]) ((byte[]) held)[i] = (byte) v;
        if (held instanceof short[]) ((short[]) held)[i] = (short) v;
        if (held instanceof int[]) ((int[]) held)[i] = (int) v;
        if (held instanceof long[]) ((long[]) held)[i] = v;
        if (held instanceof boolean[]) ((boolean[]) held)[i] = v != 0;
        return 1;
    }

    long element(int shelf, int i) {
        if (placeFault(shelf, i) != 0) return Long.MIN_VALUE;
        Object held = shelves[shelf].held;
        return held instanceof boolean[] ? ((boolean[]) held)[i] ? 1 : 0 : Array.getLong(held, i);
    }

    int shift(int shelf, int i, int other, int j, int n) {
        if (out(shelf, 0, 5) || out(other, 0, 5)) return -1;
        Object from = shelves[shelf].held, to = shelves[other].held;
        if (from == null || to == null) return -11;
        if (!from.getClass().isArray() || from.getClass() != to.getClass()) return -12;
        try {
            System.arraycopy(from, i, to, j, n);
        } catch (IndexOutOfBoundsException e) {
            return -13;
        }
        return n;
    }

    int taken(int shelf, int k) {
        if (out(shelf, 0, 5) || out(k, 0, 7)) return -1;
        Object held = shelves[shelf].held;
        if (held == null) return -11;
        return SlowBodies.isUnder(held, k) ? SlowBodies.kindOf((SlowBodies.Bee) held) : -12;
    }

    int count(int what) {
        switch (what) {
            case 0: return w.people.size();
            case 1: return tape.length();
            case 2: return changes.size();
            case 3: return bodies.size();
            case 4: return trace.size();
            default: return -1;
        }
    }
}
