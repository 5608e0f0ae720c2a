import java.util.ArrayList;
import java.util.List;
import java.util.function.ToLongFunction;

/**
 * Calls that are refused, and calls in thought, change nothing: of two parishes that are alike one gets the call,
 * and then all that can be asked of both is the same, and all that can be done with both does the same.
 */
public final class RefusalsTest {
    private static final int MIN = Integer.MIN_VALUE, MAX = Integer.MAX_VALUE;
    private static final Check check = new Check("RefusalsTest");

    public static void main(String[] args) {
        check.says("What is answered so changes nothing.");
        refusedPeople();
        refusedThoughts();
        refusedDeeds();
        refusedShelves();
        refusedWhenFull();
        refusedWhenNew();
        check.says("IN THOUGHT, from now: behind the first n SAYINGS of a DAY");
        thoughts();
        check.end();
    }

    /** Something of everything: shelf 0 a day, 1 shorts, 2 a body, 3 booleans, 4 nothing, 5 a day that is too long. */
    private static BeesSting parish() {
        BeesSting x = Check.parish(0x04, 0x32, 0x90, 0x0F);
        Check.law(x, "3+n-d/4");
        Check.bytes(x, 0, 1, 3, 0, 7, 1);
        Check.row(x, 1, 1, 7, 8, 9, 300, 1, 1);
        x.body(5);
        x.body(7);
        x.keep(2, 1);
        Check.row(x, 3, 4, 1, 0, 1);
        x.row(5, 0, 13);
        x.mend(1, 1, 9);
        x.mend(2, 2, 2);
        x.mend(0, 5, 9);
        x.mend(3, 3, 30);
        x.undo();
        x.say(0, 1);
        x.say(1, 1);
        x.image();
        x.pad(0);
        x.go(2, 0x70);
        x.say(3, 1);
        x.feed('2');
        x.feed('n');
        x.act(0, 3, 4);
        return x;
    }

    /** People, the tape and bodies full. */
    private static BeesSting fullParish() {
        BeesSting x = Check.parish(1, 2, 3, 4, 5, 6, 7, 8);
        for (int i = 0; i < 120; i++) {
            x.feed(i % 2 == 0 ? '1' : '+');
        }
        for (int i = 0; i < 50; i++) {
            x.body(i % 8);
        }
        x.row(1, 1, 30);
        x.act(49, 3, 1);
        return x;
    }

    /** What all numbers tell, and then what comes of calls that change them. */
    private static List<Long> all(BeesSting x) {
        List<Long> all = new ArrayList<>();
        askPeople(x, all);
        for (int what = 0; what < 5; what++) {
            all.add((long) x.count(what));
        }
        for (int i = 0; i < 12; i++) {
            all.add((long) x.trace(i));
        }
        for (int shelf = 0; shelf < 6; shelf++) {
            all.add((long) x.taken(shelf, 0));
            for (int i : new int[] {0, 1, 2, 3, 4, 12}) {
                all.add(x.element(shelf, i));
            }
        }
        for (int what = 0; what < 3; what++) {
            all.add((long) x.day(0, 24, what));
        }
        all.add((long) x.redo());
        all.add((long) x.undo());
        all.add((long) x.undo());
        all.add((long) x.back());
        askPeople(x, all);
        all.add((long) x.feed('1'));
        all.add((long) x.law());
        all.add((long) x.loud(0));
        all.add((long) x.person(9));
        all.add((long) x.body(0));
        return all;
    }

    private static void askPeople(BeesSting x, List<Long> all) {
        for (int one = 0; one < x.count(0); one++) {
            for (int what = 0; what < 4; what++) {
                all.add((long) x.of(one, what));
            }
            all.add((long) x.loud(one));
        }
        for (int what = 4; what < 8; what++) {
            all.add((long) x.of(0, what));
        }
        for (int what = 0; what < 7; what++) {
            all.add((long) x.led(what));
        }
    }

    private static void same(String call, BeesSting with, BeesSting without) {
        check.due("what is otherwise behind " + call, all(with).equals(all(without)) ? 0 : 1, 0);
    }

    private static void refused(String call, long want, ToLongFunction<BeesSting> act) {
        BeesSting x = parish();
        check.due(call, act.applyAsLong(x), want);
        same(call, x, parish());
    }

    private static void refusedWhenFull(String call, long want, ToLongFunction<BeesSting> act) {
        BeesSting x = fullParish();
        check.due(call + " when full", act.applyAsLong(x), want);
        same(call + " when full", x, fullParish());
    }

    private static void refusedWhenNew(String call, long want, ToLongFunction<BeesSting> act) {
        BeesSting x = new BeesSting();
        check.due(call + " when new", act.applyAsLong(x), want);
        same(call + " when new", x, new BeesSting());
    }

    private static void refusedPeople() {
        refused("person(-1)", -1, x -> x.person(-1));
        refused("person(256)", -1, x -> x.person(256));
        refused("people(6, 0, 1)", -1, x -> x.people(6, 0, 1));
        refused("people(1, 0, 0)", -1, x -> x.people(1, 0, 0));
        refused("people(1, 0, 9)", -1, x -> x.people(1, 0, 9));
        refused("people(0, 0, 1)", -12, x -> x.people(0, 0, 1));
        refused("people(2, 0, 1)", -12, x -> x.people(2, 0, 1));
        refused("people(4, 0, 1)", 0, x -> x.people(4, 0, 1));
        refused("people(1, -1, 1)", 0, x -> x.people(1, -1, 1));
        refused("people(1, 3, 1)", 0, x -> x.people(1, 3, 1));
        refused("people(1, 4, 1)", 0, x -> x.people(1, 4, 1));
        int[] most = {255, 12, 9, 99, 255, 20, 23, 9};
        for (int what = 0; what < 8; what++) {
            int w = what;
            refused("mend(0, " + w + ", -1)", -1, x -> x.mend(0, w, -1));
            refused("mend(0, " + w + ", more)", -1, x -> x.mend(0, w, most[w] + 1));
            refused("mend(4, " + w + ", 2)", -1, x -> x.mend(4, w, 2));
            refused("mend(-1, " + w + ", 2)", -1, x -> x.mend(-1, w, 2));
            refused("of(4, " + w + ")", -1, x -> x.of(4, w));
            refused("the same number of " + w, parish().of(0, w), x -> x.mend(0, w, x.of(0, w)));
        }
        refused("mend(0, 5, 0)", -1, x -> x.mend(0, 5, 0));
        refused("mend(0, 7, 0)", -1, x -> x.mend(0, 7, 0));
        refused("mend(0, 8, 1)", -1, x -> x.mend(0, 8, 1));
        refused("mend(0, -1, 1)", -1, x -> x.mend(0, -1, 1));
        refused("feed(-1)", -1, x -> x.feed(-1));
        refused("feed(256)", -1, x -> x.feed(256));
        refused("loud(4)", -1, x -> x.loud(4));
    }

    private static void refusedThoughts() {
        for (int shelf : new int[] {-1, 6, 1, 2, 3, 4}) {
            int want = shelf == -1 || shelf == 6 ? -1 : shelf == 4 ? -11 : -12;
            refused("day on " + shelf, want, x -> x.day(shelf, 5, 0));
            refused("stung on " + shelf, want, x -> x.stung(shelf, 5, 0, 0));
            refused("passOn on " + shelf, want, x -> x.passOn(shelf, 0, 0));
            refused("orders on " + shelf, want, x -> x.orders(shelf, -1));
            refused("stand on " + shelf, want, x -> x.stand(shelf, 0, 0));
            refused("heard of " + shelf, want, x -> x.heard(shelf, 0, 0));
            refused("heard by " + shelf, want, x -> x.heard(0, shelf, 0));
        }
        refused("day(0, 25, 0)", -1, x -> x.day(0, 25, 0));
        refused("day(0, 5, 3)", -1, x -> x.day(0, 5, 3));
        refused("stung(0, 25, 0, 0)", -1, x -> x.stung(0, 25, 0, 0));
        refused("stung(0, 5, 4, 0)", -1, x -> x.stung(0, 5, 4, 0));
        refused("stung(0, 5, 0, 3)", -1, x -> x.stung(0, 5, 0, 3));
        refused("soon(4)", -1, x -> x.soon(4));
        refused("passOn(0, 4, 0)", -1, x -> x.passOn(0, 4, 0));
        refused("passOn(0, 0, 2)", -1, x -> x.passOn(0, 0, 2));
        refused("orders(0, -3)", -1, x -> x.orders(0, -3));
        refused("orders(0, 5)", -2, x -> x.orders(0, 5));
        refused("orders(5, -1)", -5, x -> x.orders(5, -1));
        refused("stand(0, 4, 0)", -1, x -> x.stand(0, 4, 0));
        refused("stand(0, 0, 2)", -1, x -> x.stand(0, 0, 2));
        refused("lastWord(0, 1, 0)", -1, x -> x.lastWord(0, 1, 0));
        refused("lastWord(4, 1, 0)", -1, x -> x.lastWord(4, 1, 0));
        refused("lastWord(1, 0, 0)", -1, x -> x.lastWord(1, 0, 0));
        refused("lastWord(1, 7, 0)", -1, x -> x.lastWord(1, 7, 0));
        refused("lastWord(1, 1, 2)", -1, x -> x.lastWord(1, 1, 2));
        refused("crier(4, 0)", -1, x -> x.crier(4, 0));
        refused("crier(0, 2)", -1, x -> x.crier(0, 2));
        refused("keepNear(4)", -1, x -> x.keepNear(4));
        refused("heard(0, 0, 4)", -1, x -> x.heard(0, 0, 4));
        refused("heard(5, 0, 0)", -5, x -> x.heard(5, 0, 0));
        refused("drawn(1, 100, 0)", -1, x -> x.drawn(1, 100, 0));
        refused("drawn(1, 141, 0)", -1, x -> x.drawn(1, 141, 0));
        refused("drawn(1, 3101, 0)", -1, x -> x.drawn(1, 3101, 0));
        refused("drawn(1, 101, 4)", -1, x -> x.drawn(1, 101, 4));
        refused("drawn(1, 101, -2)", -1, x -> x.drawn(1, 101, -2));
    }

    private static void refusedDeeds() {
        refused("say(4, 1)", -1, x -> x.say(4, 1));
        refused("say(-1, 1)", -1, x -> x.say(-1, 1));
        refused("say(0, 2)", -1, x -> x.say(0, 2));
        refused("say(0, -1)", -1, x -> x.say(0, -1));
        refused("go(4, 0)", -1, x -> x.go(4, 0));
        refused("go(0, 256)", -1, x -> x.go(0, 256));
        refused("go(0, -1)", -1, x -> x.go(0, -1));
        refused("pad(4)", -1, x -> x.pad(4));
        refused("pad(-1)", -1, x -> x.pad(-1));
        refused("led(7)", -1, x -> x.led(7));
        refused("led(-1)", -1, x -> x.led(-1));
    }

    private static void refusedShelves() {
        refused("body(-1)", -1, x -> x.body(-1));
        refused("body(8)", -1, x -> x.body(8));
        refused("trace(-1)", -1, x -> x.trace(-1));
        refused("trace(10)", -1, x -> x.trace(10));
        refused("count(5)", -1, x -> x.count(5));
        for (int shelf = 0; shelf < 6; shelf++) {
            int s = shelf;
            refused("keep(" + s + ", 2)", -1, x -> x.keep(s, 2));
            refused("keep(" + s + ", -2)", -1, x -> x.keep(s, -2));
            refused("row(" + s + ", 5, 1)", -1, x -> x.row(s, 5, 1));
            refused("row(" + s + ", 0, 61)", -1, x -> x.row(s, 0, 61));
            refused("row(" + s + ", 0, -1)", -14, x -> x.row(s, 0, -1));
            refused("taken(" + s + ", 8)", -1, x -> x.taken(s, 8));
            refused("taken(" + s + ", 4)", s == 4 ? -11 : -12, x -> x.taken(s, 4));
            int want = s == 4 ? -11 : s == 2 ? -12 : -13;
            refused("put(" + s + ", -1)", want, x -> x.put(s, -1, 1));
            refused("put(" + s + ", 60)", want, x -> x.put(s, 60, 1));
            refused("element(" + s + ", 60)", Long.MIN_VALUE, x -> x.element(s, 60));
            refused("shift(" + s + ", 0, " + s + ", 0, 61)", want, x -> x.shift(s, 0, s, 0, 61));
            refused("shift(" + s + ", 0, " + s + ", 0, -1)", want, x -> x.shift(s, 0, s, 0, -1));
        }
        refused("keep(6, 0)", -1, x -> x.keep(6, 0));
        refused("row(6, 0, 1)", -1, x -> x.row(6, 0, 1));
        refused("put(6, 0, 1)", -1, x -> x.put(6, 0, 1));
        refused("shift(0, 0, 5, 9, 5)", -13, x -> x.shift(0, 0, 5, 9, 5));
        refused("shift(5, 9, 0, 0, 5)", -13, x -> x.shift(5, 9, 0, 0, 5));
        refused("shift(0, 0, 1, 0, 1)", -12, x -> x.shift(0, 0, 1, 0, 1));
        refused("shift(0, 0, 2, 0, 1)", -12, x -> x.shift(0, 0, 2, 0, 1));
        refused("shift(0, 0, 4, 0, 1)", -11, x -> x.shift(0, 0, 4, 0, 1));
        refused("shift(0, 0, 6, 0, 1)", -1, x -> x.shift(0, 0, 6, 0, 1));
    }

    private static void refusedWhenFull() {
        refusedWhenFull("person(0)", -3, x -> x.person(0));
        refusedWhenFull("people(1, 0, 8)", 0, x -> x.people(1, 0, 8));
        refusedWhenFull("feed(49)", -3, x -> x.feed(49));
        refusedWhenFull("feed(256)", -1, x -> x.feed(256));
        refusedWhenFull("body(0)", -3, x -> x.body(0));
        refusedWhenFull("body(8)", -1, x -> x.body(8));
        refusedWhenFull("undo()", -5, x -> x.undo());
        refusedWhenFull("redo()", -5, x -> x.redo());
        refusedWhenFull("back()", -5, x -> x.back());
    }

    private static void refusedWhenNew() {
        refusedWhenNew("undo()", -5, x -> x.undo());
        refusedWhenNew("redo()", -5, x -> x.redo());
        refusedWhenNew("back()", -5, x -> x.back());
        refusedWhenNew("law()", -100, x -> x.law());
        refusedWhenNew("say(0, 1)", -1, x -> x.say(0, 1));
        refusedWhenNew("go(0, 1)", -1, x -> x.go(0, 1));
        refusedWhenNew("pad(0)", -1, x -> x.pad(0));
        refusedWhenNew("mend(0, 0, 1)", -1, x -> x.mend(0, 0, 1));
        refusedWhenNew("keep(0, 0)", -1, x -> x.keep(0, 0));
        refusedWhenNew("act(0, 0, 0)", 0, x -> x.act(0, 0, 0));
        refusedWhenNew("orders(0, MAX)", -11, x -> x.orders(0, MAX));
        refusedWhenNew("drawn(0, MIN, -1)", -1, x -> x.drawn(0, MIN, -1));
    }

    /** One call in thought, and what it did not change. */
    private static void thought(String call, ToLongFunction<BeesSting> think) {
        BeesSting x = parish();
        long first = think.applyAsLong(x);
        check.holds(call + " is no refusal", first != -1 && first > -5);
        check.due(call + " once more", think.applyAsLong(x), first);
        same(call, x, parish());
    }

    private static void thoughts() {
        for (int one = 0; one < 4; one++) {
            int o = one;
            thought("loud " + o, x -> x.loud(o));
            thought("soon " + o, x -> x.soon(o));
            thought("keepNear " + o, x -> x.keepNear(o));
            for (int what = 0; what < 2; what++) {
                int w = what;
                thought("stung " + o, x -> x.stung(0, 24, o, w));
                thought("passOn " + o, x -> x.passOn(0, o, w));
                thought("stand " + o, x -> x.stand(0, o, w));
                thought("crier " + o, x -> x.crier(o, w));
                thought("lastWord " + o, x -> x.lastWord(o * 10 + (o + 1) % 4, 6, w));
                thought("day " + o, x -> x.day(0, o, w));
                thought("heard " + o, x -> x.heard(0, 0, o));
            }
            thought("drawn " + o, x -> x.drawn(o, 3040, o));
            thought("orders " + o, x -> x.orders(0, o - 2));
        }
        thought("reach", x -> x.reach());
        thought("drawn", x -> x.drawn(9, 3040, -1));
    }
}
