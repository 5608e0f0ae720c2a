import java.util.Arrays;

/**
 * A parish and its swarm of bees: the swarm goes for the latest liar within a mile, and for no one else.
 * All rows are made by the constructors and used again, so that no call makes an object.
 */
public final class BeesSting {
    public static final int BAD = -1, NOT = -2, FULL = -3, STATE = -5, VOID = -2000000000;

    private static final int NOTHING_THERE = -11, OTHER_KIND = -12, NO_PLACE = -13, BELOW_ZERO = -14;
    private static final int CROWD = 8, CELLS = 256, HOURS = 24, LONGEST_DAY = 24, STILL_SAYINGS = 24;
    private static final int MOST_ORDERED = 7, MOST_HEARD = 12, MOST_TURNS = 6, STILL_HOURS = 4;
    private static final int MOST_WEEKS = 30, MOST_DRAWN = 40, NOBODYS = 8;

    // what mend() and of() tell of
    private static final int CELL = 0, CHEEK = 1, PADS = 2, PAY = 3, SWARM = 4, MILE = 5, HOUR = 6, PACE = 7;
    private static final int[] LEAST = {0, 0, 0, 0, 0, 1, 0, 1};
    private static final int[] MOST = {255, 12, 9, 99, 255, 20, 23, 9};

    private final Parish parish;
    private final Law rules;
    private final Flight deed;
    private final Flight thought;
    private final Flight further;
    private final Day today;
    private final Orders arranging;
    private final LastWord talking;
    private final Heard hearing;
    private final Changes changes = new Changes();
    private final Shelves shelves = new Shelves();
    private final Acts acts = new Acts();
    private final Flight keptFlight;
    private final int[] keptCells = new int[CROWD];
    private int keptPeople = -1;

    public BeesSting() {
        Parish made = new Parish();
        Law law = new Law();
        Day day = new Day();
        Flight[] flights = new Flight[MOST_HEARD + 2];
        for (int i = 0; i < flights.length; i++) {
            flights[i] = new Flight(made, law);
        }
        parish = made;
        rules = law;
        today = day;
        deed = new Flight(made, law);
        thought = new Flight(made, law);
        further = new Flight(made, law);
        keptFlight = new Flight(made, law);
        arranging = new Orders(flights, day);
        talking = new LastWord(flights);
        hearing = new Heard(flights, day, made);
    }

    // ---- people

    public int person(int cell) {
        if (!isCell(cell)) {
            return BAD;
        }
        if (parish.people >= CROWD) {
            return FULL;
        }
        return join(cell, 6, 0);
    }

    public int people(int shelf, int i, int n) {
        if (!Shelves.isShelf(shelf) || n < 1 || n > CROWD) {
            return BAD;
        }
        if (shelves.isEmpty(shelf)) {
            return 0;
        }
        if (!shelves.holdsRow(shelf, Shelves.SHORTS)) {
            return OTHER_KIND;
        }
        int came = 0;
        while (came < n && i >= 0 && comes(shelf, i + 3L * came)) {
            came++;
        }
        return came;
    }

    public int mend(int number, int what, int v) {
        if (!isTold(number, what) || v < LEAST[what] || v > MOST[what]) {
            return BAD;
        }
        int was = told(number, what);
        if (was != v) {
            changes.add(number, what, was, v);
            tell(number, what, v);
        }
        return was;
    }

    public int of(int number, int what) {
        return isTold(number, what) ? told(number, what) : BAD;
    }

    public int feed(int letter) {
        if (letter < 0 || letter > 255) {
            return BAD;
        }
        return rules.takeLetter(letter);
    }

    public int law() {
        return rules.takeText();
    }

    public int loud(int one) {
        if (!parish.has(one)) {
            return BAD;
        }
        thought.begin(deed);
        return rules.loudness(thought, one);
    }

    // ---- days in thought

    public int day(int shelf, int n, int what) {
        if (!Shelves.isShelf(shelf) || n < 0 || n > LONGEST_DAY || what < 0 || what > 2) {
            return BAD;
        }
        int fault = openDay(shelf);
        if (fault < 0) {
            return fault;
        }
        int louds = think(n);
        return what == 0 ? thought.liar : what == 1 ? thought.swarm : louds;
    }

    public int stung(int shelf, int n, int one, int what) {
        if (!Shelves.isShelf(shelf) || n < 0 || n > LONGEST_DAY || !parish.has(one) || what < 0 || what > 2) {
            return BAD;
        }
        int fault = openDay(shelf);
        if (fault < 0) {
            return fault;
        }
        thought.begin(deed);
        int times = 0;
        int hurts = 0;
        int first = NOT;
        for (int i = 0; i < n && i < today.size; i++) {
            int ahead = thought.hurts;
            if (thought.utter(today.who(i), today.isLie(i)) == one) {
                first = times == 0 ? i : first;
                times++;
                hurts += thought.hurts - ahead;
            }
        }
        return what == 0 ? times : what == 1 ? hurts : first;
    }

    public int reach() {
        return parish.within(deed.swarm);
    }

    public int soon(int one) {
        if (!parish.has(one)) {
            return BAD;
        }
        thought.begin(deed);
        return rules.loudness(thought, one) > 0 ? stungBehind(thought, one) : NOT;
    }

    public int passOn(int shelf, int one, int what) {
        if (!Shelves.isShelf(shelf) || !parish.has(one) || what < 0 || what > 1) {
            return BAD;
        }
        int fault = openDay(shelf);
        if (fault < 0) {
            return fault;
        }
        think(LONGEST_DAY);
        int who = NOT;
        int latest = NOT;
        for (int other = 0; other < parish.people; other++) {
            if (other == one || rules.loudness(thought, other) <= 0) {
                continue;
            }
            further.follow(thought, CROWD);
            int behind = stungBehind(further, other);
            behind = behind == NOT ? STILL_SAYINGS : behind;
            if (behind > latest) {
                latest = behind;
                who = other;
            }
        }
        return what == 0 ? who : latest;
    }

    public int orders(int shelf, int k) {
        if (!Shelves.isShelf(shelf) || k < -2) {
            return BAD;
        }
        int fault = openDay(shelf);
        if (fault < 0) {
            return fault;
        }
        if (today.size > MOST_ORDERED) {
            return STATE;
        }
        if (k >= today.size) {
            return NOT;
        }
        arranging.tryAll(deed);
        return k == -1 ? arranging.fewest : k == -2 ? arranging.quiet : arranging.placeOf(k);
    }

    public int stand(int shelf, int one, int what) {
        if (!Shelves.isShelf(shelf) || !parish.has(one) || what < 0 || what > 1) {
            return BAD;
        }
        int fault = openDay(shelf);
        if (fault < 0) {
            return fault;
        }
        int stood = parish.cell[one];
        int least = NOT;
        int many = 0;
        for (int at = 0; at < CELLS; at++) {
            parish.place(one, at);
            if (isSpared(one)) {
                least = many == 0 ? at : least;
                many++;
            }
        }
        parish.place(one, stood);
        return what == 0 ? least : many;
    }

    // ---- last words, criers

    public int lastWord(int ab, int n, int what) {
        if (ab < 0 || n < 1 || n > MOST_TURNS || what < 0 || what > 1) {
            return BAD;
        }
        int first = ab / 10;
        int other = ab % 10;
        if (first == other || !parish.has(first) || !parish.has(other)) {
            return BAD;
        }
        talking.talk(deed, first, other, n);
        return what == 0 ? talking.stings : talking.opening;
    }

    public int crier(int one, int what) {
        if (!parish.has(one) || what < 0 || what > 1) {
            return BAD;
        }
        int near = parish.within(deed.swarm);
        int who = NOT;
        int least = NOT;
        for (int other = 0; other < parish.people; other++) {
            if (other == one || (near >> other & 1) == 0) {
                continue;
            }
            int takes = deed.pads[other] > 0 ? parish.pay[other] / 2 : parish.pay[other];
            if (who == NOT || takes < least) {
                who = other;
                least = takes;
            }
        }
        return what == 0 ? who : least;
    }

    public int keepNear(int one) {
        if (!parish.has(one)) {
            return BAD;
        }
        int who = NOT;
        for (int other = 0; other < parish.people; other++) {
            if (other != one && (who == NOT || parish.isNearer(one, other, who))) {
                who = other;
            }
        }
        return who;
    }

    public int heard(int day, int told, int what) {
        if (!Shelves.isShelf(day) || !Shelves.isShelf(told) || what < 0 || what > 3) {
            return BAD;
        }
        int fault = shelves.faultOfBytes(day, told);
        if (fault < 0) {
            return fault;
        }
        today.read(shelves, day, parish.people);
        if (today.size > MOST_HEARD) {
            return STATE;
        }
        hearing.listen(deed, shelves, told);
        if (what == 0) {
            return hearing.ways;
        }
        return what == 1 ? hearing.fewest : what == 2 ? hearing.which : hearing.certain;
    }

    public int drawn(int seed, int nm, int one) {
        if (nm < 0 || one < -1 || one >= parish.people) {
            return BAD;
        }
        int weeks = nm / 100;
        int sayings = nm % 100;
        if (weeks < 1 || weeks > MOST_WEEKS || sayings < 1 || sayings > MOST_DRAWN) {
            return BAD;
        }
        if (parish.people == 0) {
            return 0;
        }
        int z = seed;
        int times = 0;
        int hurts = 0;
        for (int week = 0; week < weeks; week++) {
            thought.begin(deed);
            for (int i = 0; i < sayings; i++) {
                z = z * 1103515245 + 12345;
                int who = (z >>> 8) % parish.people;
                if (thought.utter(who, (z >>> 16) % 12 < parish.cheek[who]) == one) {
                    times++;
                }
            }
            hurts += thought.hurts;
        }
        return one == -1 ? hurts : times;
    }

    // ---- in deed

    public int say(int one, int lie) {
        if (!parish.has(one) || lie < 0 || lie > 1) {
            return BAD;
        }
        return deed.utter(one, lie == 1);
    }

    public int go(int one, int cell) {
        if (!parish.has(one) || !isCell(cell)) {
            return BAD;
        }
        int was = parish.cell[one];
        parish.place(one, cell);
        return was;
    }

    public int pad(int one) {
        if (!parish.has(one)) {
            return BAD;
        }
        deed.pads[one] = Math.min(MOST[PADS], deed.pads[one] + 1);
        return deed.pads[one];
    }

    public int led(int what) {
        switch (what) {
            case 0: return deed.sayings;
            case 1: return deed.lies;
            case 2: return deed.louds;
            case 3: return deed.stings;
            case 4: return deed.hurts;
            case 5: return deed.liar;
            case 6: return deed.swarm;
            default: return BAD;
        }
    }

    public int image() {
        keptPeople = parish.people;
        System.arraycopy(parish.cell, 0, keptCells, 0, CROWD);
        keptFlight.follow(deed, CROWD);
        return deed.sayings;
    }

    public int back() {
        if (keptPeople < 0) {
            return STATE;
        }
        boolean newcomerLied = deed.liar >= keptPeople;
        for (int i = 0; i < keptPeople; i++) {
            parish.place(i, keptCells[i]);
        }
        deed.follow(keptFlight, keptPeople);
        if (newcomerLied) {
            deed.liar = NOT;
        }
        return deed.sayings;
    }

    public int undo() {
        if (changes.done == 0) {
            return STATE;
        }
        changes.done--;
        int i = changes.done;
        tell(changes.number[i], changes.what[i], changes.was[i]);
        return changes.done;
    }

    public int redo() {
        if (changes.done == changes.all) {
            return STATE;
        }
        int i = changes.done;
        changes.done++;
        tell(changes.number[i], changes.what[i], changes.becomes[i]);
        return changes.all - changes.done;
    }

    // ---- acts, shelves

    public int body(int kind) {
        return Acts.isKind(kind) ? acts.make(kind) : BAD;
    }

    public int act(int body, int act, int x) {
        return acts.perform(body, act, x);
    }

    public int trace(int i) {
        return i >= 0 && i < acts.kept() ? acts.traced[i] : BAD;
    }

    public int keep(int shelf, int body) {
        if (!Shelves.isShelf(shelf) || (body != -1 && !acts.has(body))) {
            return BAD;
        }
        shelves.lay(shelf, body == -1 ? Shelves.EMPTY : Shelves.BODY, body);
        return 1;
    }

    public int row(int shelf, int sort, int n) {
        if (!Shelves.isShelf(shelf) || sort < 0 || sort > Shelves.BOOLEANS || n > Shelves.LONGEST) {
            return BAD;
        }
        if (n < 0) {
            return BELOW_ZERO;
        }
        shelves.lay(shelf, sort, n);
        return 1;
    }

    public int put(int shelf, int i, long v) {
        int fault = shelves.faultOfPlace(shelf, i);
        if (fault < 0) {
            return fault;
        }
        shelves.set(shelf, i, v);
        return 1;
    }

    public long element(int shelf, int i) {
        return shelves.faultOfPlace(shelf, i) < 0 ? Long.MIN_VALUE : shelves.get(shelf, i);
    }

    public int shift(int shelf, int i, int other, int j, int n) {
        if (!Shelves.isShelf(shelf) || !Shelves.isShelf(other)) {
            return BAD;
        }
        return shelves.copy(shelf, i, other, j, n);
    }

    public int taken(int shelf, int k) {
        if (!Shelves.isShelf(shelf) || !Acts.isKind(k)) {
            return BAD;
        }
        if (shelves.isEmpty(shelf)) {
            return NOTHING_THERE;
        }
        int kind = acts.kindOf(shelves.bodyOn(shelf));
        return Acts.isUnder(kind, k) ? kind : OTHER_KIND;
    }

    public int count(int what) {
        switch (what) {
            case 0: return parish.people;
            case 1: return rules.fed;
            case 2: return changes.done;
            case 3: return acts.made;
            case 4: return acts.ran;
            default: return BAD;
        }
    }

    // ---- what the calls share

    private static boolean isCell(int cell) {
        return cell >= 0 && cell < CELLS;
    }

    private int join(int cell, int cheek, int pads) {
        int one = parish.join(cell, cheek);
        deed.pads[one] = pads;
        return one;
    }

    /** Whether one more came from the three places of a row of shorts that begin at a place. */
    private boolean comes(int shelf, long at) {
        if (at + 2 >= shelves.sizeOf(shelf) || parish.people >= CROWD) {
            return false;
        }
        int i = (int) at;
        int cell = (int) shelves.get(shelf, i);
        int cheek = (int) shelves.get(shelf, i + 1);
        int pads = (int) shelves.get(shelf, i + 2);
        if (!isCell(cell) || cheek < 0 || cheek > MOST[CHEEK] || pads < 0 || pads > MOST[PADS]) {
            return false;
        }
        join(cell, cheek, pads);
        return true;
    }

    private boolean isTold(int number, int what) {
        if (what >= CELL && what <= PAY) {
            return parish.has(number);
        }
        return what >= SWARM && what <= PACE && number == 0;
    }

    private int told(int number, int what) {
        switch (what) {
            case CELL: return parish.cell[number];
            case CHEEK: return parish.cheek[number];
            case PADS: return deed.pads[number];
            case PAY: return parish.pay[number];
            case SWARM: return deed.swarm;
            case MILE: return parish.mile;
            case HOUR: return deed.hour;
            default: return parish.pace;
        }
    }

    private void tell(int number, int what, int v) {
        switch (what) {
            case CELL: parish.place(number, v); break;
            case CHEEK: parish.cheek[number] = v; break;
            case PADS: deed.pads[number] = v; break;
            case PAY: parish.pay[number] = v; break;
            case SWARM: deed.swarm = v; break;
            case MILE: parish.setMile(v); break;
            case HOUR: deed.hour = v; break;
            default: parish.pace = v; break;
        }
    }

    /** Reads the day on a shelf; below 0: there is none. */
    private int openDay(int shelf) {
        int fault = shelves.faultOfBytes(shelf, shelf);
        if (fault == 0) {
            today.read(shelves, shelf, parish.people);
        }
        return fault;
    }

    /** Thinks the first n sayings of the day through: which (bits) are loud lies. */
    private int think(int n) {
        thought.begin(deed);
        int bits = 0;
        for (int i = 0; i < n && i < today.size; i++) {
            int ahead = thought.louds;
            thought.utter(today.who(i), today.isLie(i));
            if (thought.louds > ahead) {
                bits |= 1 << i;
            }
        }
        return bits;
    }

    private boolean isSpared(int one) {
        thought.begin(deed);
        for (int i = 0; i < today.size; i++) {
            if (thought.utter(today.who(i), today.isLie(i)) == one) {
                return false;
            }
        }
        return true;
    }

    /** Behind how many true sayings one is stung who tells a loud lie first. */
    private static int stungBehind(Flight flight, int one) {
        if (flight.utter(one, true) == one) {
            return 0;
        }
        for (int i = 1; i <= STILL_SAYINGS; i++) {
            if (flight.passHour() == one) {
                return i;
            }
        }
        return NOT;
    }

    /** Who stands where, how bold and how dear; how far and how fast a swarm goes. */
    private static final class Parish {
        int people = 0;
        int mile = 8;
        int pace = 4;
        final int[] cell = new int[CROWD];
        final int[] cheek = new int[CROWD];
        final int[] pay = new int[CROWD];
        // how many are within a mile of each; searches ask for it many times while nobody moves
        final int[] near = new int[CROWD];

        boolean has(int one) {
            return one >= 0 && one < people;
        }

        int join(int at, int boldness) {
            int one = people;
            people++;
            cell[one] = at;
            cheek[one] = boldness;
            pay[one] = 10;
            lookAround();
            return one;
        }

        void place(int one, int at) {
            cell[one] = at;
            lookAround();
        }

        void setMile(int miles) {
            mile = miles;
            lookAround();
        }

        private void lookAround() {
            for (int one = 0; one < people; one++) {
                near[one] = Integer.bitCount(within(cell[one]));
            }
        }

        /** Who (bits) is within a mile of a cell. */
        int within(int at) {
            int bits = 0;
            for (int one = 0; one < people; one++) {
                if (apart(cell[one], at) <= mile) {
                    bits |= 1 << one;
                }
            }
            return bits;
        }

        /** Whether a is nearer to one than b is, or as near with less cheek. */
        boolean isNearer(int one, int a, int b) {
            int farA = apart(cell[one], cell[a]);
            int farB = apart(cell[one], cell[b]);
            return farA < farB || (farA == farB && cheek[a] < cheek[b]);
        }

        /** The least of those in a cell. */
        int whoseCell(int at) {
            for (int one = 0; one < people; one++) {
                if (cell[one] == at) {
                    return one;
                }
            }
            return NOBODYS;
        }

        static int apart(int a, int b) {
            int alongX = (a & 15) - (b & 15);
            int alongY = (a >> 4) - (b >> 4);
            return (alongX < 0 ? -alongX : alongX) + (alongY < 0 ? -alongY : alongY);
        }
    }

    /** Where the swarm is and whom it is after, in deed or in thought; what has been said and stung. */
    private static final class Flight {
        final Parish parish;
        private final Law law;
        final int[] pads = new int[CROWD];
        int hour = 8;
        int swarm = 0;
        int liar = NOT;
        int sayings = 0;
        int lies = 0;
        int louds = 0;
        int stings = 0;
        int hurts = 0;

        Flight(Parish where, Law how) {
            parish = where;
            law = how;
        }

        /** Becomes as another one, with the pads of the first few people. */
        void follow(Flight other, int few) {
            System.arraycopy(other.pads, 0, pads, 0, Math.min(few, CROWD));
            hour = other.hour;
            swarm = other.swarm;
            liar = other.liar;
            sayings = other.sayings;
            lies = other.lies;
            louds = other.louds;
            stings = other.stings;
            hurts = other.hurts;
        }

        /** A thought begins: all as in deed, but nothing has been said in it yet. */
        void begin(Flight deed) {
            follow(deed, CROWD);
            sayings = 0;
            lies = 0;
            louds = 0;
            stings = 0;
            hurts = 0;
        }

        /** One says something: who is stung behind it, or NOT. */
        int utter(int one, boolean isLie) {
            sayings++;
            if (isLie) {
                if (law.loudness(this, one) > 0) {
                    louds++;
                    liar = one;
                }
                lies++;
            }
            return passHour();
        }

        /** An hour goes and the swarm flies: who is stung, or NOT. */
        int passHour() {
            hour = (hour + 1) % HOURS;
            if (liar == NOT || Parish.apart(swarm, parish.cell[liar]) > parish.mile) {
                return NOT;
            }
            swarm = flown(swarm, parish.cell[liar], parish.pace);
            if (swarm != parish.cell[liar]) {
                return NOT;
            }
            int victim = liar;
            stings++;
            if (pads[victim] > 0) {
                pads[victim]--;
            } else {
                hurts++;
            }
            liar = NOT;
            return victim;
        }

        private static int flown(int from, int to, int pace) {
            int x = nearer(from & 15, to & 15, pace);
            int left = pace - Parish.apart(from & 15, x);
            return nearer(from >> 4, to >> 4, left) * 16 + x;
        }

        private static int nearer(int from, int to, int steps) {
            if (to > from) {
                return from + steps < to ? from + steps : to;
            }
            return from - steps > to ? from - steps : to;
        }
    }

    /** How loud a lie is, by a text that is fed letter by letter. */
    private static final class Law {
        private static final int TAPE = 120, LOUDEST = 99, FAULTY = -100, NAMES = 6;

        private final int[] tape = new int[TAPE];
        int fed = 0;
        private final LawReader reader = new LawReader();
        private final int[] stack = new int[TAPE + 1];
        // what c, g, d, h, n, k are while a text is worked out
        private final int[] named = new int[NAMES];
        // read into the spare row, so that a faulty text leaves the law as it was
        private int[] code = new int[LawReader.LONGEST];
        private int[] spare = new int[LawReader.LONGEST];
        private int size = 0;

        int takeLetter(int letter) {
            if (fed >= TAPE) {
                return FULL;
            }
            tape[fed] = letter;
            fed++;
            return fed;
        }

        int takeText() {
            boolean isWhole = reader.read(tape, fed, spare);
            fed = 0;
            if (!isWhole) {
                return FAULTY - reader.at;
            }
            int[] old = code;
            code = spare;
            spare = old;
            size = reader.size;
            return 1;
        }

        int loudness(Flight flight, int one) {
            Parish parish = flight.parish;
            int far = Parish.apart(parish.cell[one], flight.swarm);
            int raw;
            if (size == 0) {
                raw = 10 + flight.lies - far - parish.cheek[one] / 2;
            } else {
                named[0] = parish.cheek[one];
                named[1] = flight.pads[one];
                named[2] = far;
                named[3] = flight.hour;
                named[4] = flight.lies;
                named[5] = parish.near[one];
                raw = worth();
            }
            return Math.max(0, Math.min(LOUDEST, raw));
        }

        /** Works the text out: numbers and names come onto the stack, signs join what lies on top of it. */
        private int worth() {
            int top = 0;
            for (int i = 0; i < size; i++) {
                int step = code[i];
                if (step >= 0) {
                    if (top >= stack.length) {
                        return 0;
                    }
                    stack[top] = step < LawReader.NAMED ? step : named[(step - LawReader.NAMED) % NAMES];
                    top++;
                } else if (top < 1) {
                    return 0;
                } else if (step == -LawReader.GIVES) {
                    return stack[top - 1];
                } else if (step == -LawReader.IF) {
                    top--;
                    i = stack[top] != 0 || i + 1 >= size ? i + 1 : Math.max(i + 1, code[i + 1] - 1);
                } else if (step == -'!') {
                    stack[top - 1] = stack[top - 1] == 0 ? 1 : 0;
                } else if (step == -LawReader.NEGATED) {
                    stack[top - 1] = -stack[top - 1];
                } else if (top < 2) {
                    return 0;
                } else {
                    top--;
                    stack[top - 1] = joined(-step, stack[top - 1], stack[top]);
                }
            }
            return 0;
        }

        private static int joined(int sign, int a, int b) {
            switch (sign) {
                case '|': return a != 0 || b != 0 ? 1 : 0;
                case '&': return a != 0 && b != 0 ? 1 : 0;
                case '<': return a < b ? 1 : 0;
                case '=': return a == b ? 1 : 0;
                case '>': return a > b ? 1 : 0;
                case '+': return a + b;
                case '-': return a - b;
                case '*': return a * b;
                case '/': return b == 0 ? 0 : a / b;
                default: return b == 0 ? 0 : a % b;
            }
        }
    }

    /**
     * Reads a law's text into a code in which every sign stands behind what it joins: numbers as they are,
     * names by their places from NAMED on, signs as their letters below 0. Where reading stops early, its
     * place is the text's fault.
     */
    private static final class LawReader {
        static final int LONGEST = 256, NAMED = 10000, IF = '?', GIVES = ';', NEGATED = '~';
        private static final int MOST_OPEN = 6, DIGITS = 4, NO_NAME = -1;

        private int[] text = new int[0];
        private int[] code = new int[0];
        private int length = 0;
        int at = 0;
        int size = 0;

        private static int nameOf(int letter) {
            switch (letter) {
                case 'c': return 0;
                case 'g': return 1;
                case 'd': return 2;
                case 'h': return 3;
                case 'n': return 4;
                case 'k': return 5;
                default: return NO_NAME;
            }
        }

        boolean read(int[] tape, int letters, int[] into) {
            text = tape;
            length = Math.min(letters, tape.length);
            code = into;
            at = 0;
            size = 0;
            for (int line = 0; line <= length; line++) {
                if (!readLine()) {
                    return false;
                }
                if (at >= length) {
                    return true;
                }
                if (!passes(';')) {
                    return false;
                }
            }
            return false;
        }

        private boolean readLine() {
            if (!readEither(0)) {
                return false;
            }
            int hole = -1;
            if (passes('?')) {
                write(-IF);
                hole = size;
                write(0);
                if (!readEither(0)) {
                    return false;
                }
            }
            write(-GIVES);
            if (hole >= 0 && hole < code.length) {
                code[hole] = size;
            }
            return true;
        }

        private boolean readEither(int open) {
            if (!readBoth(open)) {
                return false;
            }
            while (at < length && sign() == '|') {
                at++;
                if (!readBoth(open)) {
                    return false;
                }
                write(-'|');
            }
            return true;
        }

        private boolean readBoth(int open) {
            if (!readCompared(open)) {
                return false;
            }
            while (at < length && sign() == '&') {
                at++;
                if (!readCompared(open)) {
                    return false;
                }
                write(-'&');
            }
            return true;
        }

        private boolean readCompared(int open) {
            if (!readSum(open)) {
                return false;
            }
            int sign = sign();
            if (sign != '<' && sign != '=' && sign != '>') {
                return true;
            }
            at++;
            if (!readSum(open)) {
                return false;
            }
            write(-sign);
            return true;
        }

        private boolean readSum(int open) {
            if (!readProduct(open)) {
                return false;
            }
            for (int sign = sign(); at < length && (sign == '+' || sign == '-'); sign = sign()) {
                at++;
                if (!readProduct(open)) {
                    return false;
                }
                write(-sign);
            }
            return true;
        }

        private boolean readProduct(int open) {
            if (!readOne(open)) {
                return false;
            }
            for (int sign = sign(); at < length && (sign == '*' || sign == '/' || sign == '%'); sign = sign()) {
                at++;
                if (!readOne(open)) {
                    return false;
                }
                write(-sign);
            }
            return true;
        }

        /** A number, a name, or what stands behind ! - ( ; open tells how many of these are open around it. */
        private boolean readOne(int open) {
            int sign = sign();
            if (isDigit(sign)) {
                return readNumber();
            }
            int name = nameOf(sign);
            if (name != NO_NAME) {
                at++;
                return write(NAMED + name);
            }
            if (open >= MOST_OPEN || (sign != '!' && sign != '-' && sign != '(')) {
                return false;
            }
            at++;
            if (sign == '(') {
                return readEither(open + 1) && passes(')');
            }
            return readOne(open + 1) && write(sign == '!' ? -'!' : -NEGATED);
        }

        private boolean readNumber() {
            int number = 0;
            for (int i = 0; i < DIGITS && isDigit(sign()); i++) {
                number = number * 10 + sign() - '0';
                at++;
            }
            return write(number);
        }

        private static boolean isDigit(int letter) {
            return letter >= '0' && letter <= '9';
        }

        /** The letter that comes next; -1 at the end. */
        private int sign() {
            return at < length ? text[at] : -1;
        }

        private boolean passes(int letter) {
            if (sign() != letter) {
                return false;
            }
            at++;
            return true;
        }

        private boolean write(int step) {
            if (size >= code.length) {
                return false;
            }
            code[size] = step;
            size++;
            return true;
        }
    }

    /** The sayings of a day, one behind the other. */
    private static final class Day {
        private final int[] saying = new int[LONGEST_DAY];
        int size = 0;

        void read(Shelves shelves, int shelf, int people) {
            size = 0;
            int most = Math.min(LONGEST_DAY, shelves.sizeOf(shelf));
            for (int i = 0; i < most; i++) {
                int said = (int) shelves.get(shelf, i);
                if (said < 0 || said / 2 >= people) {
                    return;
                }
                saying[i] = said;
                size = i + 1;
            }
        }

        int who(int i) {
            return saying[i] / 2;
        }

        boolean isLie(int i) {
            return saying[i] % 2 == 1;
        }
    }

    /** All orders of a day's sayings, by their places, and the one in which it hurts least often. */
    private static final class Orders {
        private final Flight[] flights;
        private final Day day;
        private final int[] tried = new int[MOST_ORDERED];
        private final int[] best = new int[MOST_ORDERED];
        int fewest = 0;
        int quiet = 0;

        Orders(Flight[] levels, Day sayings) {
            flights = levels;
            day = sayings;
        }

        void tryAll(Flight deed) {
            fewest = LONGEST_DAY;
            quiet = 0;
            flights[0].begin(deed);
            arrange(this, 0, 0);
        }

        int placeOf(int k) {
            return k >= 0 && k < MOST_ORDERED ? best[k] : NOT;
        }

        /** Tries all orders that go on from the places tried and used so far. */
        private static void arrange(Orders all, int depth, int used) {
            Flight ahead = all.flights[depth];
            // the first of like ones stays, and none that has hurt can be quiet
            if (ahead.hurts > 0 && ahead.hurts >= all.fewest) {
                return;
            }
            Day day = all.day;
            if (depth >= day.size || depth >= MOST_ORDERED) {
                all.take(ahead.hurts);
                return;
            }
            Flight behind = all.flights[depth + 1];
            for (int place = 0; place < day.size; place++) {
                if ((used >> place & 1) == 0) {
                    all.tried[depth] = place;
                    behind.follow(ahead, CROWD);
                    behind.utter(day.who(place), day.isLie(place));
                    arrange(all, depth + 1, used | 1 << place);
                }
            }
        }

        private void take(int hurts) {
            if (hurts == 0) {
                quiet++;
            }
            if (hurts < fewest) {
                fewest = hurts;
                System.arraycopy(tried, 0, best, 0, MOST_ORDERED);
            }
        }
    }

    /** Two who lie or say nothing by turns, each as it is best for himself. */
    private static final class LastWord {
        private final Flight[] flights;
        private int first = 0;
        private int other = 0;
        private int turns = 0;
        int stings = 0;
        int opening = 0;

        LastWord(Flight[] levels) {
            flights = levels;
        }

        void talk(Flight deed, int one, int another, int times) {
            first = one;
            other = another;
            turns = Math.min(times, MOST_TURNS);
            flights[0].begin(deed);
            stings = play(this, 0, 0);
        }

        /** Who (bits) is stung in the end, if so many turns are over and these have been stung by then. */
        private static int play(LastWord two, int turn, int soFar) {
            Flight now = two.flights[turn];
            Flight next = two.flights[turn + 1];
            next.follow(now, CROWD);
            if (turn >= two.turns) {
                return soFar | two.stillness(next);
            }
            boolean isFirst = turn % 2 == 0;
            int quiet = play(two, turn + 1, soFar | two.bit(next.passHour()));
            next.follow(now, CROWD);
            int lied = play(two, turn + 1, soFar | two.bit(next.utter(isFirst ? two.first : two.other, true)));
            boolean lies = liking(lied, isFirst) > liking(quiet, isFirst);
            // the first turn ends last, so that its choice stays
            two.opening = lies ? 1 : 0;
            return lies ? lied : quiet;
        }

        private int stillness(Flight flight) {
            int bits = 0;
            for (int i = 0; i < STILL_HOURS; i++) {
                bits |= bit(flight.passHour());
            }
            return bits;
        }

        private int bit(int who) {
            return who == first ? 1 : who == other ? 2 : 0;
        }

        private static int liking(int bits, boolean isFirst) {
            int own = isFirst ? bits & 1 : bits >> 1;
            int others = isFirst ? bits >> 1 : bits & 1;
            return (own == 0 ? 2 : 0) + others;
        }
    }

    /** All ways in which a day's sayings are lies or not, by whom the swarm was seen to fly to. */
    private static final class Heard {
        private final Flight[] flights;
        private final Day day;
        private final Parish parish;
        private final int[] seen = new int[MOST_HEARD];
        private int known = 0;
        int ways = 0;
        int fewest = NOT;
        int which = NOT;
        int certain = 0;

        Heard(Flight[] levels, Day sayings, Parish where) {
            flights = levels;
            day = sayings;
            parish = where;
        }

        void listen(Flight deed, Shelves shelves, int told) {
            known = Math.min(MOST_HEARD, shelves.sizeOf(told));
            for (int i = 0; i < known; i++) {
                seen[i] = (int) shelves.get(told, i);
            }
            ways = 0;
            fewest = NOT;
            which = NOT;
            certain = 0;
            flights[0].begin(deed);
            guess(this, 0, 0);
        }

        /** Guesses all from the i-th saying on, if these (bits) ahead of it are lies. */
        private static void guess(Heard all, int i, int lies) {
            Day day = all.day;
            if (i >= day.size || i >= MOST_HEARD) {
                all.take(lies);
                return;
            }
            Flight behind = all.flights[i + 1];
            for (int lie = 0; lie <= 1; lie++) {
                behind.follow(all.flights[i], CROWD);
                behind.utter(day.who(i), lie == 1);
                if (i >= all.known || all.parish.whoseCell(behind.swarm) == all.seen[i]) {
                    guess(all, i + 1, lies | lie << i);
                }
            }
        }

        private void take(int lies) {
            int many = Integer.bitCount(lies);
            if (ways == 0 || many < fewest || (many == fewest && lies < which)) {
                fewest = many;
                which = lies;
            }
            certain = ways == 0 ? lies : certain & lies;
            ways++;
        }
    }

    /** The changes that may be undone (ahead of done) and done again (from it on). */
    private static final class Changes {
        private static final int KEPT = 40;

        final int[] number = new int[KEPT];
        final int[] what = new int[KEPT];
        final int[] was = new int[KEPT];
        final int[] becomes = new int[KEPT];
        int done = 0;
        int all = 0;

        void add(int whose, int which, int from, int to) {
            if (done >= KEPT) {
                dropOldest(number);
                dropOldest(what);
                dropOldest(was);
                dropOldest(becomes);
                done = KEPT - 1;
            }
            number[done] = whose;
            what[done] = which;
            was[done] = from;
            becomes[done] = to;
            done++;
            all = done;
        }

        private static void dropOldest(int[] kept) {
            System.arraycopy(kept, 1, kept, 0, KEPT - 1);
        }
    }

    /** Shelves that hold nothing, a body, or a row. */
    private static final class Shelves {
        static final int EMPTY = -1, BYTES = 0, SHORTS = 1, INTS = 2, BOOLEANS = 4, BODY = 5, LONGEST = 60;
        private static final int MANY = 6;

        private final int[] sort = {EMPTY, EMPTY, EMPTY, EMPTY, EMPTY, EMPTY};
        // a row's size, or a body's number
        private final int[] size = new int[MANY];
        private final long[][] rows = new long[MANY][LONGEST];

        static boolean isShelf(int shelf) {
            return shelf >= 0 && shelf < MANY;
        }

        boolean isEmpty(int shelf) {
            return sort[shelf] == EMPTY;
        }

        boolean holdsRow(int shelf, int ofSort) {
            return sort[shelf] == ofSort;
        }

        int bodyOn(int shelf) {
            return sort[shelf] == BODY ? size[shelf] : -1;
        }

        int sizeOf(int shelf) {
            return isRow(shelf) ? size[shelf] : 0;
        }

        private boolean isRow(int shelf) {
            return sort[shelf] != EMPTY && sort[shelf] != BODY;
        }

        void lay(int shelf, int ofSort, int n) {
            sort[shelf] = ofSort;
            size[shelf] = n;
            Arrays.fill(rows[shelf], 0L);
        }

        int faultOfBytes(int a, int b) {
            if (isEmpty(a) || isEmpty(b)) {
                return NOTHING_THERE;
            }
            return holdsRow(a, BYTES) && holdsRow(b, BYTES) ? 0 : OTHER_KIND;
        }

        int faultOfPlace(int shelf, int i) {
            if (!isShelf(shelf)) {
                return BAD;
            }
            if (isEmpty(shelf)) {
                return NOTHING_THERE;
            }
            if (!isRow(shelf)) {
                return OTHER_KIND;
            }
            return i >= 0 && i < size[shelf] ? 0 : NO_PLACE;
        }

        long get(int shelf, int i) {
            return rows[shelf][i];
        }

        void set(int shelf, int i, long v) {
            rows[shelf][i] = lowest(sort[shelf], v);
        }

        private static long lowest(int ofSort, long v) {
            switch (ofSort) {
                case BYTES: return (byte) v;
                case SHORTS: return (short) v;
                case INTS: return (int) v;
                case BOOLEANS: return v != 0 ? 1 : 0;
                default: return v;
            }
        }

        int copy(int from, int i, int to, int j, int n) {
            if (isEmpty(from) || isEmpty(to)) {
                return NOTHING_THERE;
            }
            if (!isRow(from) || sort[from] != sort[to]) {
                return OTHER_KIND;
            }
            if (i < 0 || j < 0 || n < 0 || (long) i + n > size[from] || (long) j + n > size[to]) {
                return NO_PLACE;
            }
            System.arraycopy(rows[from], i, rows[to], j, n);
            return n;
        }
    }

    /** Bodies of kinds that stand under one another, and what ran in the latest act of one. */
    private static final class Acts {
        private static final int FLIES = 0, STINGS = 1, SETTLES = 2, TELLS = 3;
        private static final int BEE = 0, CHILD = 1, BROOK = 2, COURT = 3, CRIER = 4, SAINT = 5, COAT = 6, BEARD = 7;
        private static final int NO_KIND = -1, NO_BODY = 0, MANY = 50, TRACED = 24, DEEPEST = 40;
        // the kind under which each kind stands
        private static final int[] ABOVE = {NO_KIND, BEE, BEE, BROOK, CHILD, COURT, BEE, COAT};

        private final int[] kind = new int[MANY];
        int made = 0;
        final int[] traced = new int[TRACED];
        int ran = 0;
        private int number = 0;

        static boolean isKind(int k) {
            return k >= BEE && k <= BEARD;
        }

        static boolean isUnder(int k, int top) {
            int at = k;
            for (int i = 0; i < ABOVE.length && isKind(at); i++) {
                if (at == top) {
                    return true;
                }
                at = ABOVE[at];
            }
            return false;
        }

        boolean has(int body) {
            return body >= 0 && body < made;
        }

        int kindOf(int body) {
            return has(body) ? kind[body] : NO_KIND;
        }

        int make(int ofKind) {
            if (made >= MANY) {
                return FULL;
            }
            kind[made] = ofKind;
            made++;
            return made - 1;
        }

        int kept() {
            return Math.min(ran, TRACED);
        }

        int perform(int body, int act, int x) {
            ran = 0;
            if (!has(body) || act < FLIES || act > TELLS) {
                return 0;
            }
            number = body;
            return self(act, x, 0);
        }

        /** The act as its own kind does it. */
        private int self(int act, int x, int depth) {
            return from(kind[number], act, x, depth);
        }

        /** The act as a kind does it, or the next kind above that has a body for it. */
        private int from(int level, int act, int x, int depth) {
            int at = level;
            for (int i = 0; i < ABOVE.length && isKind(at); i++) {
                int body = bodyOf(at, act);
                if (body != NO_BODY) {
                    return depth < DEEPEST ? run(body, x, depth + 1) : 0;
                }
                at = ABOVE[at];
            }
            return 0;
        }

        private static int bodyOf(int level, int act) {
            switch (level * 4 + act) {
                case BEE * 4 + FLIES: return 1;
                case BEE * 4 + STINGS: return 10;
                case BEE * 4 + SETTLES: return 11;
                case BEE * 4 + TELLS: return 2;
                case CHILD * 4 + FLIES: return 20;
                case BROOK * 4 + STINGS: return 30;
                case COURT * 4 + SETTLES: return 40;
                case COURT * 4 + STINGS: return 41;
                case CRIER * 4 + TELLS: return 50;
                case SAINT * 4 + SETTLES: return 60;
                case SAINT * 4 + TELLS: return 61;
                case COAT * 4 + FLIES: return 70;
                case BEARD * 4 + STINGS: return 80;
                case BEARD * 4 + FLIES: return 81;
                default: return NO_BODY;
            }
        }

        private int run(int body, int x, int depth) {
            if (ran < TRACED) {
                traced[ran] = body;
            }
            ran++;
            switch (body) {
                case 1: return x + number;
                case 2: return self(STINGS, x, depth) - self(SETTLES, 1, depth);
                case 10: return self(FLIES, x, depth) * 2;
                case 11: return x ^ number;
                case 20: return from(ABOVE[CHILD], FLIES, x, depth) + 3;
                case 30: return -from(ABOVE[BROOK], STINGS, x, depth);
                case 40: return from(ABOVE[COURT], SETTLES, x, depth) * 3;
                case 41: return from(ABOVE[COURT], STINGS, x + 1, depth);
                case 50: return from(ABOVE[CRIER], TELLS, x, depth) ^ 5;
                case 60: return from(ABOVE[SAINT], SETTLES, x, depth) - self(FLIES, 2, depth);
                case 61: return from(ABOVE[SAINT], TELLS, x, depth) + 1;
                case 70: return from(ABOVE[COAT], FLIES, x, depth) * 2;
                case 80: return from(ABOVE[BEARD], STINGS, x, depth) + self(SETTLES, 2, depth);
                case 81: return from(ABOVE[BEARD], FLIES, x, depth) - 1;
                default: return 0;
            }
        }
    }
}
