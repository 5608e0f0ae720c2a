/** Counts answers that are not as due, and makes rows and laws in few words. */
final class Check {
    private final String test;
    private int asked = 0;
    private int wrong = 0;

    Check(String name) {
        test = name;
    }

    void due(String call, long got, long want) {
        asked++;
        if (got != want) {
            wrong++;
            System.out.println(test + ": " + call + " answered " + got + ", due is " + want);
        }
    }

    void holds(String what, boolean so) {
        due(what, so ? 1 : 0, 1);
    }

    /** Ends the test's run, with exit code 1 if anything was wrong. */
    void end() {
        System.out.println(test + ": " + asked + " answers, " + wrong + " wrong");
        if (wrong > 0 || asked == 0) {
            System.exit(1);
        }
    }

    static void row(BeesSting x, int shelf, int sort, long... values) {
        x.row(shelf, sort, values.length);
        for (int i = 0; i < values.length; i++) {
            x.put(shelf, i, values[i]);
        }
    }

    static void bytes(BeesSting x, int shelf, long... values) {
        row(x, shelf, 0, values);
    }

    static int law(BeesSting x, String text) {
        for (int i = 0; i < text.length(); i++) {
            x.feed(text.charAt(i));
        }
        return x.law();
    }

    static BeesSting parish(int... cells) {
        BeesSting x = new BeesSting();
        for (int cell : cells) {
            x.person(cell);
        }
        return x;
    }
}
