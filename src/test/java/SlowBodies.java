import java.util.ArrayList;
import java.util.List;

/** The kinds of bodies as Java's own classes: what runs is what Java says runs. */
final class SlowBodies {
    static final List<Integer> TRACE = new ArrayList<>();

    private static int ran(int body) {
        TRACE.add(body);
        return body;
    }

    interface Flies {
        int number();
        default int flies(int x) { ran(1); return x + number(); }
    }

    interface Tells {
        int stings(int x);
        int settles(int x);
        default int tells(int x) { ran(2); return stings(x) - settles(1); }
    }

    static class Bee implements Flies, Tells {
        int n;
        public int number() { return n; }
        public int stings(int x) { ran(10); return flies(x) * 2; }
        public int settles(int x) { ran(11); return x ^ n; }
    }

    static class Child extends Bee {
        public int flies(int x) { ran(20); return super.flies(x) + 3; }
    }

    static class Brook extends Bee {
        public int stings(int x) { ran(30); return -super.stings(x); }
    }

    static class Court extends Brook {
        public int settles(int x) { ran(40); return super.settles(x) * 3; }
        public int stings(int x) { ran(41); return super.stings(x + 1); }
    }

    static class Crier extends Child {
        public int tells(int x) { ran(50); return super.tells(x) ^ 5; }
    }

    static class Saint extends Court {
        public int settles(int x) { ran(60); return super.settles(x) - flies(2); }
        public int tells(int x) { ran(61); return super.tells(x) + 1; }
    }

    static class Coat extends Bee {
        public int flies(int x) { ran(70); return super.flies(x) * 2; }
    }

    static class Beard extends Coat {
        public int stings(int x) { ran(80); return super.stings(x) + settles(2); }
        public int flies(int x) { ran(81); return super.flies(x) - 1; }
    }

    private static final Class<?>[] KINDS = {Bee.class, Child.class, Brook.class, Court.class, Crier.class,
        Saint.class, Coat.class, Beard.class};

    static Bee make(int kind, int number) {
        Bee[] one = {new Bee(), new Child(), new Brook(), new Court(), new Crier(), new Saint(), new Coat(), new Beard()};
        one[kind].n = number;
        return one[kind];
    }

    static int kindOf(Bee bee) {
        for (int kind = 0; kind < KINDS.length; kind++) {
            if (KINDS[kind] == bee.getClass()) {
                return kind;
            }
        }
        return -1;
    }

    static boolean isUnder(Object what, int kind) {
        return KINDS[kind].isInstance(what);
    }
}
