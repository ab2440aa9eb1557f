import java.util.NoSuchElementException;

/**
 * Gates that sag, told as a text: how far they drop week upon week and by which part, which causes fit what was
 * measured, and which works hold them. Rows are made in the constructor and used again: no call makes a new one.
 */
public final class SagGates {
    public static final int NONE = -1;

    private static final int NO_SUCH_TEXT = -2;
    private static final int NOTHING_DOES = -2;
    private static final int NO_SUCH_GATE = -2;
    private static final int NO_VALUE = Integer.MIN_VALUE;

    private static final int TAPE_MOST = 900;
    private static final int FED_AT_ONCE = 20;
    private static final int GATES_MOST = 4;
    private static final int WORKS_MOST = 6;
    private static final int CAUSES_MOST = 6;
    private static final int KNOTS_MOST = 64;
    private static final int OPEN_MOST = 8;
    private static final int MEASURES_MOST = 40;
    private static final int UNDO_MOST = 20;
    private static final int ANGLES = 9;
    private static final int MONTHS = 12;
    private static final int WEEKS_OF_YEAR = 52;
    private static final int WEEKS_MOST = 2000;
    private static final int AHEAD_MOST = 520;
    private static final int LASTS_MOST = 1000;
    private static final int TURN_MOST = 100;
    private static final int BOUND_MOST = 99999;
    private static final int MEASURED_MOST = 9999999;
    private static final int PART_MOST = 1000000;
    private static final int GROWTH_MOST = 9999;
    private static final int NUMBER_MOST = 9999;
    private static final int FALL_MOST = 99;
    private static final int DEEP_LEAST = 12;
    private static final int DEEP_MOST = 60;
    private static final int CHILD_MOST = 200;
    private static final int OFFSET_MOST = 30;
    private static final int WIND_POUNDS = 100;
    private static final int WIND_WEEKS_MOST = 100;
    private static final int WIND_MODULUS_MOST = 99;
    private static final int DRAWS = 10;
    private static final long VALUE_MOST = 1000000000000L;

    private static final int[] COSINES = {1000, 924, 707, 383, 0, -383, -707, -924, -1000};
    private static final int[] SINES = {0, 383, 707, 924, 1000, 924, 707, 383, 0};

    private static final int FAULT_TOKEN = 1;
    private static final int FAULT_TOO_MUCH = 2;
    private static final int FAULT_TOLD = 3;
    private static final int FAULT_NO_CAUSE = 4;

    // The W_ numbers are the places of the words in this row.
    private static final String WORDS = "ground law gate work cause lean open bend knock hooks post brace latch child gap rise has up down square wire wheel stones rehang pull firm deep thick drop week fall and or not ";
    private static final int WORD_COUNT = 34;
    private static final int W_GROUND = 0;
    private static final int W_LAW = 1;
    private static final int W_GATE = 2;
    private static final int W_WORK = 3;
    private static final int W_CAUSE = 4;
    private static final int W_LEAN = 5;
    private static final int W_BEND = 7;
    private static final int W_KNOCK = 8;
    private static final int W_HOOKS = 9;
    private static final int W_POST = 10;
    private static final int W_BRACE = 11;
    private static final int W_LATCH = 12;
    private static final int W_CHILD = 13;
    private static final int W_GAP = 14;
    private static final int W_RISE = 15;
    private static final int W_HAS = 16;
    private static final int W_UP = 17;
    private static final int W_DOWN = 18;
    private static final int W_SQUARE = 19;
    private static final int W_WIRE = 20;
    private static final int W_WHEEL = 21;
    private static final int W_STONES = 22;
    private static final int W_REHANG = 23;
    private static final int W_PULL = 24;
    private static final int W_FIRM = 25;
    private static final int W_DEEP = 26;
    private static final int W_THICK = 27;
    private static final int W_DROP = 28;
    private static final int W_WEEK = 29;
    private static final int W_FALL = 30;
    private static final int W_AND = 31;
    private static final int W_OR = 32;
    private static final int W_NOT = 33;

    private static final int T_END = 0;
    private static final int T_BAD = 1;
    private static final int T_WORD = 2;
    private static final int T_NAME = 3;
    private static final int T_NUMBER = 4;
    private static final int T_SIGN = 5;
    private static final int T_OPEN = 6;
    private static final int T_CLOSE = 7;
    private static final int T_SEMICOLON = 8;

    private static final int LETTERS_MOST = 6;
    private static final int NUMBER_CAP = 1000000;

    // A knot of a law is a number (0 .. 9999), one of NAME_BASE and on, or one of SIGN_BASE and on.
    private static final int NAME_BASE = 10000;
    private static final int SIGN_BASE = 20000;
    private static final int S_OR = 20000;
    private static final int S_AND = 20001;
    private static final int S_NOT = 20002;
    private static final int S_LESS = 20003;
    private static final int S_LESS_SAME = 20004;
    private static final int S_SAME = 20005;
    private static final int S_OTHER = 20006;
    private static final int S_MORE_SAME = 20007;
    private static final int S_MORE = 20008;
    private static final int S_PLUS = 20009;
    private static final int S_MINUS = 20010;
    private static final int S_TIMES = 20011;
    private static final int S_BY = 20012;
    private static final int S_PAREN = 20013;
    private static final int COMPARING = 4;

    private static final int N_PULL = 0;
    private static final int N_FIRM = 1;
    private static final int N_DEEP = 2;
    private static final int N_THICK = 3;
    private static final int N_UP = 4;
    private static final int N_DOWN = 5;
    private static final int N_DROP = 6;
    private static final int N_WEEK = 7;
    private static final int N_CHILD = 8;
    private static final int N_FALL = 9;
    private static final int NAMES = 10;

    private static final int LAWS = 4;
    private static final int GROWING = 3;
    private static final int L_KNOCK = 3;

    private static final int K_BRACE = 0;
    private static final int K_SQUARE = 1;
    private static final int K_WIRE = 2;
    private static final int K_WHEEL = 3;
    private static final int K_STONES = 4;
    private static final int K_POST = 5;
    private static final int K_REHANG = 6;

    private static final int BRACE_UP = 1;
    private static final int BRACE_DOWN = 2;
    private static final int MEASURABLE = 4;

    private final byte[] tape = new byte[TAPE_MOST];
    private int taped;
    private Plan plan = new Plan();
    private Plan spare = new Plan();
    private final Reader reader = new Reader(tape, spare);
    private final Laws laws = new Laws();
    private final Told untold = new Told();
    private final Gate[] gates = new Gate[GATES_MOST];
    private int next;
    private final Gate[] image = new Gate[GATES_MOST];
    private int imageNext = NONE;
    private final Undone undone = new Undone(untold);
    private final Notes notes = new Notes();
    private final Trials trials = new Trials(untold);
    private final Gate trial = new Gate(untold);
    private final Turns turns = new Turns();

    public SagGates() {
        for (int i = 0; i < GATES_MOST; i++) {
            gates[i] = new Gate(untold);
            image[i] = new Gate(untold);
        }
    }

    public int feed(int a, int b, int c, int d, int e) {
        if (taped > TAPE_MOST - FED_AT_ONCE) {
            return NONE;
        }
        putOnTape(a);
        putOnTape(b);
        putOnTape(c);
        putOnTape(d);
        putOnTape(e);
        return taped;
    }

    private void putOnTape(int number) {
        for (int shift = 24; shift >= 0; shift -= 8) {
            if (taped >= 0 && taped < tape.length) {
                tape[taped] = (byte) (number >>> shift);
                taped++;
            }
        }
    }

    public int text(int n) {
        if (n < 0 || n > taped) {
            return NO_SUCH_TEXT;
        }
        taped = 0;
        int lines = reader.readText(spare, n);
        if (lines != NONE) {
            takeSpare();
        }
        return lines;
    }

    private void takeSpare() {
        Plan old = plan;
        plan = spare;
        spare = old;
        laws.forget();
        for (int i = 0; i < GATES_MOST; i++) {
            gates[i].begin(plan, i);
        }
        next = 0;
        imageNext = NONE;
        undone.clear();
        notes.clear();
    }

    public int fault(int what) {
        if (what == 0) {
            return reader.fault;
        }
        return what == 1 ? reader.place : NONE;
    }

    public int named(int what, int letters) {
        if (what == 0) {
            return placeOf(letters, plan.gateNames, plan.gateCount);
        }
        if (what == 1) {
            return placeOf(letters, plan.workNames, plan.workCount);
        }
        return what == 2 ? placeOf(letters, plan.causeNames, plan.causeCount) : NONE;
    }

    private static int placeOf(int name, int[] names, int count) {
        for (int i = 0; i < count && i < names.length; i++) {
            if (names[i] == name) {
                return i;
            }
        }
        return NONE;
    }

    private boolean isGate(int gate) {
        return gate >= 0 && gate < plan.gateCount && gate < gates.length;
    }

    private static boolean isBound(int bound) {
        return bound >= -BOUND_MOST && bound <= BOUND_MOST;
    }

    private static boolean isAhead(int n) {
        return n >= 0 && n <= AHEAD_MOST;
    }

    private static boolean isAngle(int angle) {
        return angle >= 0 && angle < ANGLES;
    }

    private static boolean isWeek(int week) {
        return week >= 0 && week < WEEKS_MOST;
    }

    public int look(int gate, int what) throws IndexOutOfBoundsException, NoSuchElementException {
        if (!isGate(gate)) {
            throw new IndexOutOfBoundsException("no such gate");
        }
        if (what < 0 || what > 10) {
            throw new NoSuchElementException("no such what");
        }
        Gate it = gates[gate];
        switch (what) {
            case 0: return it.told.length;
            case 1: return it.told.height;
            case 2: return it.told.weight;
            case 3: return it.told.span();
            case 4: return it.pull();
            case 5: return it.deep;
            case 6: return it.told.thick;
            case 7: return it.brace;
            case 8: return it.child;
            case 9: return it.done;
            default: return it.causes;
        }
    }

    public int works(int work, int what) {
        if (!plan.isWork(work) || what < 0 || what > 2) {
            return NONE;
        }
        if (what == 0) {
            return plan.workCosts[work];
        }
        return what == 1 ? plan.workKinds[work] : plan.workNumbers[work];
    }

    public int firm(int week) {
        return isWeek(week) ? plan.firmIn(week) : NONE;
    }

    public int weeks(int n) {
        if (!isAhead(n) || next + n > WEEKS_MOST) {
            return NONE;
        }
        for (int i = 0; i < plan.gateCount && i < gates.length; i++) {
            laws.pass(plan, gates[i], next, n);
        }
        next += n;
        return next;
    }

    public int sags(int gate, int what) {
        if (!isGate(gate)) {
            return NO_VALUE;
        }
        Gate it = gates[gate];
        switch (what) {
            case 0: return it.drop();
            case 1: return it.lean;
            case 2: return it.square;
            case 3: return it.hooks;
            case 4: return it.lift;
            case 5: return it.leanPart();
            case 6: return it.square;
            case 7: return it.hooksPart();
            default: return NO_VALUE;
        }
    }

    public int latched(int gate) {
        if (!isGate(gate)) {
            return NONE;
        }
        return gates[gate].isLatched() ? 1 : 0;
    }

    public int gives(int gate) {
        if (!isGate(gate)) {
            return NONE;
        }
        Gate it = gates[gate];
        int most = Math.max(it.leanPart(), Math.max(it.square, it.hooksPart()));
        if (it.leanPart() == most) {
            return 0;
        }
        return it.square == most ? 1 : 2;
    }

    public boolean work(int gate, int work) {
        if (!isGate(gate) || !plan.isWork(work)) {
            return false;
        }
        Gate it = gates[gate];
        if ((it.done & 1 << work) != 0) {
            return false;
        }
        undone.push(gate, it);
        it.take(plan, work);
        return true;
    }

    public int undo() {
        if (undone.count <= 0) {
            return NONE;
        }
        int gate = undone.latestGate();
        if (isGate(gate)) {
            undone.popInto(gates[gate]);
        }
        return undone.count;
    }

    public int lasts(int gate, int bound) {
        if (!isGate(gate) || !isBound(bound)) {
            return NONE;
        }
        trial.copy(gates[gate]);
        for (int gone = 1; gone <= LASTS_MOST; gone++) {
            laws.pass(plan, trial, next + gone - 1, 1);
            if (trial.drop() > bound) {
                return gone;
            }
        }
        return 0;
    }

    public int least(int gate, int n, int bound, int what) {
        if (!isGate(gate) || !isAhead(n) || !isBound(bound) || what < 0 || what > 1) {
            return NONE;
        }
        int leastCost = NOTHING_DOES;
        int leastSet = NOTHING_DOES;
        for (int set = 0; set < 1 << plan.workCount; set++) {
            int cost = plan.costOf(set);
            boolean tooDear = leastSet >= 0 && cost >= leastCost;
            if ((set & gates[gate].done) == 0 && !tooDear && holds(gate, set, n, bound)) {
                leastCost = cost;
                leastSet = set;
            }
        }
        return what == 0 ? leastCost : leastSet;
    }

    private boolean holds(int gate, int set, int n, int bound) {
        trial.copy(gates[gate]);
        for (int work = 0; work < plan.workCount; work++) {
            if ((set & 1 << work) != 0) {
                trial.take(plan, work);
            }
        }
        laws.pass(plan, trial, next, n);
        return trial.drop() <= bound;
    }

    public int way(int gate, int n) {
        if (!isGate(gate) || !isAhead(n)) {
            return NO_VALUE;
        }
        return dropWithBrace(gate, n, BRACE_UP) - dropWithBrace(gate, n, BRACE_DOWN);
    }

    private int dropWithBrace(int gate, int n, int brace) {
        trial.copy(gates[gate]);
        trial.brace = brace;
        laws.pass(plan, trial, next, n);
        return trial.drop();
    }

    public int enough(int gate, int n, int bound) {
        if (!isGate(gate) || !isAhead(n) || !isBound(bound)) {
            return NONE;
        }
        boolean mattersHowDeep = (plan.growthNames() & 1 << N_DEEP) != 0;
        for (int deep = DEEP_LEAST; deep <= DEEP_MOST; deep++) {
            trial.copy(gates[gate]);
            trial.deep = deep;
            laws.pass(plan, trial, next, n);
            if (trial.lean <= bound) {
                return deep;
            }
            if (!mattersHowDeep) {
                return NOTHING_DOES;
            }
        }
        return NOTHING_DOES;
    }

    public int bears(int gate, int n, int bound) {
        if (!isGate(gate) || !isAhead(n) || !isBound(bound)) {
            return NONE;
        }
        boolean mattersChild = (plan.growthNames() & 1 << N_CHILD) != 0;
        boolean mattersPull = (plan.growthNames() & 1 << N_PULL) != 0;
        int pullBefore = 0;
        for (int child = CHILD_MOST; child >= 0; child--) {
            trial.copy(gates[gate]);
            trial.child = child;
            int pull = trial.pull();
            // A lighter child that the laws can't tell from one that was too heavy is too heavy, too.
            if (child == CHILD_MOST || mattersChild || mattersPull && pull != pullBefore) {
                pullBefore = pull;
                laws.pass(plan, trial, next, n);
                if (trial.drop() <= bound) {
                    return child;
                }
            }
        }
        return NOTHING_DOES;
    }

    public long knock(int gate, int fall) {
        if (!isGate(gate) || fall < 0 || fall > FALL_MOST || !plan.isLaw(L_KNOCK)) {
            return Long.MIN_VALUE;
        }
        laws.see(plan, gates[gate], next, fall);
        long value = laws.workOut(plan, L_KNOCK);
        return laws.error ? Long.MIN_VALUE : value;
    }

    public int measure(int gate, int week, int what, int low, int high) {
        boolean inside = low >= -MEASURED_MOST && low <= high && high <= MEASURED_MOST;
        if (!isGate(gate) || !isWeek(week) || what < 0 || what >= MEASURABLE || !inside) {
            return NONE;
        }
        return notes.add(gate, week, what, low, high);
    }

    public int strike(int measure) {
        return measure >= 0 && measure < notes.count ? notes.addStrike(measure) : NONE;
    }

    public boolean known(int n) {
        if (n < -1 || n > notes.count) {
            return false;
        }
        notes.knownBy = n;
        return true;
    }

    public int fits(int gate) {
        if (!isGate(gate)) {
            return NONE;
        }
        trials.judge(plan, laws, notes, gate, 0);
        return trials.fitting;
    }

    public int odds(int gate, int cause, int what) {
        if (!isGate(gate) || cause < 0 || cause > plan.causeCount || what < 0 || what > 1) {
            return NONE;
        }
        trials.judge(plan, laws, notes, gate, 0);
        if (trials.fitting == 0) {
            return 0;
        }
        if ((trials.fitting & 1 << cause) == 0) {
            return what;
        }
        return what == 0 ? plan.weightOf(cause) : trials.weightOfFitting(plan);
    }

    public int test(int gate, int what) {
        if (!isGate(gate) || what < 0 || what > 1) {
            return NONE;
        }
        trials.judge(plan, laws, notes, gate, next);
        if (Integer.bitCount(trials.fitting) < 2) {
            return NONE;
        }
        int best = 0;
        for (int measured = 1; measured < MEASURABLE; measured++) {
            if (trials.heaviestGroup(plan, measured) < trials.heaviestGroup(plan, best)) {
                best = measured;
            }
        }
        return what == 0 ? best : trials.heaviestGroup(plan, best);
    }

    public int low(int gate, int angle) {
        if (!isGate(gate) || !isAngle(angle)) {
            return NO_VALUE;
        }
        return gates[gate].lowHung(angle);
    }

    public int rest(int gate) {
        if (!isGate(gate)) {
            return NONE;
        }
        int lowest = 0;
        for (int angle = 1; angle < ANGLES; angle++) {
            if (gates[gate].lowHung(angle) > gates[gate].lowHung(lowest)) {
                lowest = angle;
            }
        }
        return lowest;
    }

    public int shuts(int gate) {
        if (!isGate(gate)) {
            return NONE;
        }
        int set = 1;
        for (int angle = 1; angle < ANGLES; angle++) {
            if (gates[gate].lowHung(angle - 1) <= gates[gate].lowHung(angle)) {
                return set;
            }
            set |= 1 << angle;
        }
        return set;
    }

    public int above(int gate, int angle) {
        if (!isGate(gate) || !isAngle(angle)) {
            return NO_VALUE;
        }
        return gates[gate].aboveHung(angle);
    }

    public int opens(int gate) {
        if (!isGate(gate)) {
            return NO_SUCH_GATE;
        }
        for (int angle = 0; angle < ANGLES; angle++) {
            if (gates[gate].aboveHung(angle) < 0) {
                return angle - 1;
            }
        }
        return ANGLES - 1;
    }

    public int stand(int gate, int angle, int what) {
        if (!isGate(gate) || !isAngle(angle) || what < 0 || what > 1) {
            return NO_VALUE;
        }
        trial.copy(gates[gate]);
        for (int sum = 0; sum <= 2 * OFFSET_MOST; sum++) {
            for (int out = -OFFSET_MOST; out <= OFFSET_MOST; out++) {
                int aside = sum - Math.abs(out);
                if (aside >= 0 && aside <= OFFSET_MOST) {
                    if (trial.standsWith(out, -aside, angle) || trial.standsWith(out, aside, angle)) {
                        return what == 0 ? trial.out : trial.aside;
                    }
                }
            }
        }
        return NO_VALUE;
    }

    public int first(int t, int what) {
        if (plan.gateCount == 0 || t < 1 || t > TURN_MOST || what < 0 || what > plan.gateCount) {
            return NONE;
        }
        for (int gate = 0; gate < plan.gateCount; gate++) {
            for (int turn = 0; turn < plan.gateCount; turn++) {
                turns.tell(gate, turn, unlatchedWeeks(gate, turn, t));
            }
        }
        turns.choose(plan.gateCount);
        return what == 0 ? turns.leastSum : turns.gateAt(what - 1);
    }

    // Gates don't touch one another, so what one adds to the sum depends on its own turn alone.
    private int unlatchedWeeks(int gate, int turn, int t) {
        if (!isGate(gate)) {
            return 0;
        }
        trial.copy(gates[gate]);
        int unlatched = 0;
        for (int gone = 0; gone < plan.gateCount * t; gone++) {
            if (gone == turn * t) {
                trial.lift += trial.drop();
            }
            laws.pass(plan, trial, next + gone, 1);
            if (!trial.isLatched()) {
                unlatched++;
            }
        }
        return unlatched;
    }

    public int wind(int gate, int seed, int n, int w, int bound) {
        boolean weeksRight = n >= 1 && n <= WIND_WEEKS_MOST;
        boolean modulusRight = w >= 1 && w <= WIND_MODULUS_MOST;
        if (!isGate(gate) || seed < 0 || !weeksRight || !modulusRight || !isBound(bound)) {
            return NONE;
        }
        long last = seed;
        int above = 0;
        for (int draw = 0; draw < DRAWS; draw++) {
            trial.copy(gates[gate]);
            int child = trial.child;
            for (int gone = 0; gone < n; gone++) {
                last = (last * 1103515245L + 12345L) & 0x7fffffffL;
                trial.child = (last >> 16) % w == 0 ? child + WIND_POUNDS : child;
                laws.pass(plan, trial, next + gone, 1);
            }
            if (trial.drop() > bound) {
                above++;
            }
        }
        return above;
    }

    public int keep() {
        for (int i = 0; i < GATES_MOST; i++) {
            image[i].copy(gates[i]);
        }
        imageNext = next;
        return next;
    }

    public int back() {
        if (imageNext == NONE) {
            return NONE;
        }
        for (int i = 0; i < GATES_MOST; i++) {
            gates[i].copy(image[i]);
        }
        next = imageNext;
        undone.clear();
        return next;
    }

    public int count(int what) {
        switch (what) {
            case 0: return plan.gateCount;
            case 1: return plan.workCount;
            case 2: return plan.causeCount;
            case 3: return plan.knots;
            case 4: return next;
            case 5: return notes.count;
            case 6: return notes.knownCount();
            case 7: return undone.count;
            case 8: return costOfAllDone();
            default: return NONE;
        }
    }

    private int costOfAllDone() {
        int cost = 0;
        for (int i = 0; i < plan.gateCount && i < gates.length; i++) {
            cost += plan.costOf(gates[i].done);
        }
        return cost;
    }

    /** What the text tells of one gate; weeks and works leave it alone. */
    private static final class Told {
        int length;
        int height;
        int weight;
        int lower;
        int upper;
        int out;
        int aside;
        int deep;
        int thick;
        int brace;
        int mayRise;
        int mayDrop;
        int child;
        int gap;
        int causes;
        int parts;
        final int[] rise = new int[ANGLES];

        Told() {
            clear();
        }

        void clear() {
            length = 24;
            weight = 20;
            setHeight(24);
            out = 0;
            aside = 0;
            deep = 36;
            thick = 8;
            brace = 0;
            mayRise = 1000;
            mayDrop = 1000;
            child = 0;
            gap = 3000;
            causes = 0;
            parts = 0;
            for (int i = 0; i < rise.length; i++) {
                rise[i] = 0;
            }
        }

        void setHeight(int inches) {
            height = inches;
            lower = 6;
            upper = inches - 6;
        }

        int span() {
            return upper - lower;
        }
    }

    /** A gate as it is in some week: the told one and what weeks and works have made of it. */
    private static final class Gate {
        Told told;
        int lean;
        int square;
        int hooks;
        int lift;
        int deep;
        int brace;
        int wheel;
        int stones;
        int child;
        int done;
        int causes;
        int leanMore;
        int openMore;
        int bendMore;
        int out;
        int aside;

        Gate(Told of) {
            told = of;
        }

        void begin(Plan plan, int number) {
            if (number < 0 || number >= plan.gates.length) {
                return;
            }
            told = plan.gates[number];
            lean = 0;
            square = 0;
            hooks = 0;
            lift = 0;
            deep = told.deep;
            brace = told.brace;
            wheel = 0;
            stones = 0;
            child = told.child;
            done = 0;
            out = told.out;
            aside = told.aside;
            setCauses(plan, told.causes);
        }

        void setCauses(Plan plan, int set) {
            causes = set;
            leanMore = plan.moreBy(set, 0);
            openMore = plan.moreBy(set, 1);
            bendMore = plan.moreBy(set, 2);
        }

        void copy(Gate from) {
            told = from.told;
            lean = from.lean;
            square = from.square;
            hooks = from.hooks;
            lift = from.lift;
            deep = from.deep;
            brace = from.brace;
            wheel = from.wheel;
            stones = from.stones;
            child = from.child;
            done = from.done;
            causes = from.causes;
            leanMore = from.leanMore;
            openMore = from.openMore;
            bendMore = from.bendMore;
            out = from.out;
            aside = from.aside;
        }

        int pull() {
            int span = told.span();
            if (span <= 0) {
                return 0;
            }
            int whole = told.length * (told.weight + 2 * child) / (2 * span);
            return whole * (100 - wheel) / 100;
        }

        int leanPart() {
            return told.height > 0 ? lean * told.length / told.height : 0;
        }

        int hooksPart() {
            int span = told.span();
            return span > 0 ? hooks * told.length / span : 0;
        }

        int drop() {
            return leanPart() + square + hooksPart() - lift;
        }

        int measured(int what) {
            switch (what) {
                case 0: return drop();
                case 1: return lean;
                case 2: return square;
                default: return hooks;
            }
        }

        boolean isLatched() {
            int drop = drop();
            return drop >= -told.mayRise && drop <= told.mayDrop;
        }

        void take(Plan plan, int work) {
            if (!plan.isWork(work)) {
                return;
            }
            int number = plan.workNumbers[work];
            done |= 1 << work;
            switch (plan.workKinds[work]) {
                case K_BRACE:
                    brace = BRACE_UP;
                    break;
                case K_SQUARE:
                    square = 0;
                    break;
                case K_WIRE:
                    lift += number;
                    break;
                case K_WHEEL:
                    wheel = number;
                    break;
                case K_STONES:
                    stones += number;
                    break;
                case K_POST:
                    lean = 0;
                    deep += number;
                    break;
                default:
                    hooks = 0;
                    lift += number;
                    break;
            }
        }

        void grow(int byLean, int byOpen, int byBend) {
            lean = Math.min(PART_MOST, lean + byLean + leanMore);
            square = Math.min(PART_MOST, square + byOpen + openMore);
            hooks = Math.min(PART_MOST, hooks + byBend + bendMore);
        }

        int lowHung(int angle) {
            if (!isAngle(angle) || told.height <= 0) {
                return 0;
            }
            int x = 100 * out + lean * told.span() / told.height;
            int y = 100 * aside;
            return x * COSINES[angle] + y * SINES[angle];
        }

        int aboveHung(int angle) {
            int span = told.span();
            if (!isAngle(angle) || span <= 0) {
                return 0;
            }
            // The two may lie further apart than an int reaches once they are multiplied.
            long fallen = (long) lowHung(0) - lowHung(angle);
            long raised = told.length * fallen / (1000L * span);
            return (int) raised + told.gap - drop() - 100 * told.rise[angle];
        }

        boolean standsWith(int outNow, int asideNow, int angleMost) {
            out = outNow;
            aside = asideNow;
            for (int angle = 0; angle <= angleMost; angle++) {
                if (angle > 0 && lowHung(angle - 1) <= lowHung(angle)) {
                    return false;
                }
                if (aboveHung(angle) < 0) {
                    return false;
                }
            }
            return true;
        }
    }

    /** A text that was read. Two of them take turns, so that a faulty text leaves the one in use as it is. */
    private static final class Plan {
        final int[] ground = new int[MONTHS];
        final int[] code = new int[KNOTS_MOST];
        int coded;
        int knots;
        final int[] lawFrom = new int[LAWS];
        final int[] lawTo = new int[LAWS];
        final int[] lawNames = new int[LAWS];
        final Told[] gates = new Told[GATES_MOST];
        final int[] gateNames = new int[GATES_MOST];
        int gateCount;
        final int[] workNames = new int[WORKS_MOST];
        final int[] workCosts = new int[WORKS_MOST];
        final int[] workKinds = new int[WORKS_MOST];
        final int[] workNumbers = new int[WORKS_MOST];
        int workCount;
        final int[] causeNames = new int[CAUSES_MOST];
        final int[] causeWeights = new int[CAUSES_MOST];
        final int[] causeKinds = new int[CAUSES_MOST];
        final int[] causeNumbers = new int[CAUSES_MOST];
        int causeCount;

        Plan() {
            for (int i = 0; i < GATES_MOST; i++) {
                gates[i] = new Told();
            }
            clear();
        }

        void clear() {
            for (int i = 0; i < MONTHS; i++) {
                ground[i] = 50;
            }
            for (int i = 0; i < LAWS; i++) {
                lawFrom[i] = 0;
                lawTo[i] = 0;
                lawNames[i] = 0;
            }
            for (int i = 0; i < GATES_MOST; i++) {
                gates[i].clear();
            }
            coded = 0;
            knots = 0;
            gateCount = 0;
            workCount = 0;
            causeCount = 0;
        }

        boolean isWork(int work) {
            return work >= 0 && work < workCount && work < WORKS_MOST;
        }

        boolean isCause(int cause) {
            return cause >= 0 && cause < causeCount && cause < CAUSES_MOST;
        }

        boolean isLaw(int law) {
            return law >= 0 && law < LAWS && lawTo[law] > lawFrom[law];
        }

        int firmIn(int week) {
            return week < 0 ? 0 : ground[week * MONTHS / WEEKS_OF_YEAR % MONTHS];
        }

        int growthNames() {
            return lawNames[0] | lawNames[1] | lawNames[2];
        }

        int costOf(int set) {
            int cost = 0;
            for (int work = 0; work < workCount && work < WORKS_MOST; work++) {
                if ((set & 1 << work) != 0) {
                    cost += workCosts[work];
                }
            }
            return cost;
        }

        int moreBy(int set, int kind) {
            int more = 0;
            for (int cause = 0; cause < causeCount && cause < CAUSES_MOST; cause++) {
                if ((set & 1 << cause) != 0 && causeKinds[cause] == kind) {
                    more += causeNumbers[cause];
                }
            }
            return more;
        }

        int weightOf(int cause) {
            return isCause(cause) ? causeWeights[cause] : 1;
        }

        void addCode(int knot) {
            if (coded >= 0 && coded < KNOTS_MOST) {
                code[coded] = knot;
                coded++;
            }
        }
    }

    /** Cuts the tape into tokens, one at a time, so that a fault behind the first one is never looked at. */
    private static final class Tokens {
        final byte[] bytes;
        final int[] words = new int[WORD_COUNT];
        int length;
        int at;
        int kind;
        int place;
        int value;

        Tokens(byte[] tape) {
            bytes = tape;
            int word = 0;
            int letters = 0;
            for (int i = 0; i < WORDS.length() && word < WORD_COUNT; i++) {
                char sign = WORDS.charAt(i);
                if (sign == ' ') {
                    word++;
                    letters = 0;
                } else {
                    words[word] |= letterBits(sign, letters);
                    letters++;
                }
            }
        }

        private static int letterBits(int letter, int letters) {
            return letters < LETTERS_MOST ? letter - 'a' + 1 << 5 * (LETTERS_MOST - 1 - letters) : 0;
        }

        void begin(int n) {
            length = Math.max(0, Math.min(n, bytes.length));
            at = 0;
            step();
        }

        void step() {
            while (at < length && (bytes[at] == 32 || bytes[at] == 10)) {
                at++;
            }
            place = at;
            value = 0;
            if (at >= length) {
                kind = T_END;
            } else if (bytes[at] >= 'a' && bytes[at] <= 'z') {
                readLetters();
            } else if (bytes[at] >= '0' && bytes[at] <= '9') {
                readDigits();
            } else {
                readSign(bytes[at]);
            }
        }

        private void readLetters() {
            int letters = 0;
            while (at < length && bytes[at] >= 'a' && bytes[at] <= 'z') {
                value |= letterBits(bytes[at], letters);
                letters++;
                at++;
            }
            kind = letters > LETTERS_MOST ? T_BAD : T_NAME;
            for (int i = 0; i < WORD_COUNT && kind == T_NAME; i++) {
                if (words[i] == value) {
                    kind = T_WORD;
                    value = i;
                }
            }
        }

        private void readDigits() {
            while (at < length && bytes[at] >= '0' && bytes[at] <= '9') {
                value = Math.min(NUMBER_CAP, 10 * value + bytes[at] - '0');
                at++;
            }
            kind = T_NUMBER;
        }

        private void readSign(int sign) {
            at++;
            kind = T_SIGN;
            switch (sign) {
                case ';': kind = T_SEMICOLON; break;
                case '(': kind = T_OPEN; break;
                case ')': kind = T_CLOSE; break;
                case '+': value = S_PLUS; break;
                case '-': value = S_MINUS; break;
                case '*': value = S_TIMES; break;
                case '/': value = S_BY; break;
                case '=': value = S_SAME; break;
                case '<': value = takes('=') ? S_LESS_SAME : takes('>') ? S_OTHER : S_LESS; break;
                case '>': value = takes('=') ? S_MORE_SAME : S_MORE; break;
                default: kind = T_BAD; break;
            }
        }

        private boolean takes(int sign) {
            if (at < length && bytes[at] == sign) {
                at++;
                return true;
            }
            return false;
        }

        boolean isWord(int word) {
            return kind == T_WORD && value == word;
        }

        boolean isWordFrom(int firstWord, int lastWord) {
            return kind == T_WORD && value >= firstWord && value <= lastWord;
        }
    }

    /** Reads an E and writes its knots so that each sign stands behind what it joins. */
    private static final class Formula {
        final Tokens tokens;
        final int[] held = new int[KNOTS_MOST + OPEN_MOST + 1];
        int heldCount;
        int open;
        int names;
        boolean wantsValue;
        boolean mayNot;
        Plan plan;

        Formula(Tokens from, Plan into) {
            tokens = from;
            plan = into;
        }

        /** Answers the fault at the token where it stopped, 0 if the E ended well. */
        int readInto(Plan into) {
            plan = into;
            heldCount = 0;
            open = 0;
            names = 0;
            wantsValue = true;
            mayNot = true;
            for (int i = 0; i <= TAPE_MOST; i++) {
                if (!wantsValue && open == 0 && signOf() == NONE) {
                    release(0);
                    return 0;
                }
                int fault = wantsValue ? readValue() : readJoint();
                if (fault != 0) {
                    return fault;
                }
                tokens.step();
            }
            return FAULT_TOKEN;
        }

        private int readValue() {
            if (tokens.kind == T_OPEN) {
                return openParen();
            }
            if (tokens.isWord(W_NOT)) {
                return mayNot ? holdKnot(S_NOT) : FAULT_TOKEN;
            }
            int knot = valueKnot();
            if (knot == NONE) {
                return FAULT_TOKEN;
            }
            if (plan.knots >= KNOTS_MOST || tokens.kind == T_NUMBER && knot > NUMBER_MOST) {
                return FAULT_TOO_MUCH;
            }
            plan.knots++;
            plan.addCode(knot);
            wantsValue = false;
            return 0;
        }

        private int openParen() {
            if (open >= OPEN_MOST) {
                return FAULT_TOO_MUCH;
            }
            open++;
            hold(S_PAREN);
            mayNot = true;
            return 0;
        }

        private int valueKnot() {
            if (tokens.kind == T_NUMBER) {
                return tokens.value;
            }
            int name = tokens.kind == T_WORD ? nameOf(tokens.value) : NONE;
            if (name == NONE) {
                return NONE;
            }
            names |= 1 << name;
            return NAME_BASE + name;
        }

        private static int nameOf(int word) {
            switch (word) {
                case W_PULL: return N_PULL;
                case W_FIRM: return N_FIRM;
                case W_DEEP: return N_DEEP;
                case W_THICK: return N_THICK;
                case W_UP: return N_UP;
                case W_DOWN: return N_DOWN;
                case W_DROP: return N_DROP;
                case W_WEEK: return N_WEEK;
                case W_CHILD: return N_CHILD;
                case W_FALL: return N_FALL;
                default: return NONE;
            }
        }

        private int readJoint() {
            if (tokens.kind == T_CLOSE && open > 0) {
                release(0);
                heldCount = Math.max(0, heldCount - 1);
                open--;
                return 0;
            }
            int sign = signOf();
            if (sign == NONE) {
                return FAULT_TOKEN;
            }
            int rank = rankOf(sign);
            // A comparison takes no other one as its side, so nothing of its own rank may wait.
            release(rank == COMPARING ? COMPARING + 1 : rank);
            if (rank == COMPARING && heldCount > 0 && rankOf(latestHeld()) == COMPARING) {
                return FAULT_TOKEN;
            }
            wantsValue = true;
            mayNot = sign == S_AND || sign == S_OR;
            return holdKnot(sign);
        }

        private int signOf() {
            if (tokens.kind == T_SIGN) {
                return tokens.value;
            }
            if (tokens.isWord(W_AND)) {
                return S_AND;
            }
            return tokens.isWord(W_OR) ? S_OR : NONE;
        }

        private static int rankOf(int sign) {
            switch (sign) {
                case S_PAREN: return -1;
                case S_OR: return 1;
                case S_AND: return 2;
                case S_NOT: return 3;
                case S_PLUS:
                case S_MINUS: return 5;
                case S_TIMES:
                case S_BY: return 6;
                default: return COMPARING;
            }
        }

        private int holdKnot(int sign) {
            if (plan.knots >= KNOTS_MOST) {
                return FAULT_TOO_MUCH;
            }
            plan.knots++;
            hold(sign);
            return 0;
        }

        private void hold(int sign) {
            if (heldCount >= 0 && heldCount < held.length) {
                held[heldCount] = sign;
                heldCount++;
            }
        }

        private int latestHeld() {
            return heldCount > 0 && heldCount <= held.length ? held[heldCount - 1] : S_PAREN;
        }

        /** Writes what waits and binds at least as strongly as rank, back to the latest '('. */
        private void release(int rank) {
            while (heldCount > 0 && rankOf(latestHeld()) >= rank) {
                plan.addCode(latestHeld());
                heldCount--;
            }
        }
    }

    /** Reads a text. Behind the first fault nothing moves on, so that it is the one that stays. */
    private static final class Reader {
        final Tokens tokens;
        final Formula formula;
        Plan plan;
        boolean groundTold;
        int fault;
        int place = NONE;

        Reader(byte[] tape, Plan into) {
            tokens = new Tokens(tape);
            formula = new Formula(tokens, into);
            plan = into;
        }

        int readText(Plan into, int length) {
            plan = into;
            plan.clear();
            groundTold = false;
            fault = 0;
            place = NONE;
            tokens.begin(length);
            for (int lines = 0; lines <= TAPE_MOST; lines++) {
                if (tokens.kind == T_END) {
                    return lines;
                }
                switch (tokens.kind == T_WORD ? tokens.value : NONE) {
                    case W_GROUND: readGround(); break;
                    case W_LAW: readLaw(); break;
                    case W_GATE: readGate(); break;
                    case W_WORK: readWork(); break;
                    case W_CAUSE: readCause(); break;
                    default: fail(FAULT_TOKEN); break;
                }
                readSemicolon();
                if (fault != 0) {
                    return NONE;
                }
            }
            return NONE;
        }

        private int fail(int number) {
            if (fault == 0) {
                fault = number;
                place = tokens.place;
            }
            return 0;
        }

        private void readSemicolon() {
            if (fault != 0 || tokens.kind != T_SEMICOLON) {
                fail(FAULT_TOKEN);
                return;
            }
            tokens.step();
        }

        private int readNumber(int low, int high) {
            boolean below = low < 0 && fault == 0 && tokens.kind == T_SIGN && tokens.value == S_MINUS;
            if (below) {
                tokens.step();
            }
            if (fault != 0 || tokens.kind != T_NUMBER) {
                return fail(FAULT_TOKEN);
            }
            int number = below ? -tokens.value : tokens.value;
            if (number < low || number > high) {
                return fail(FAULT_TOO_MUCH);
            }
            tokens.step();
            return number;
        }

        private int readNewName(int[] names, int count) {
            if (fault != 0 || tokens.kind != T_NAME) {
                return fail(FAULT_TOKEN);
            }
            int name = tokens.value;
            if (placeOf(name, names, count) != NONE) {
                return fail(FAULT_TOLD);
            }
            tokens.step();
            return name;
        }

        private void readGround() {
            if (groundTold) {
                fail(FAULT_TOLD);
                return;
            }
            groundTold = true;
            tokens.step();
            for (int i = 0; i < MONTHS; i++) {
                plan.ground[i] = readNumber(1, 99);
            }
        }

        private void readLaw() {
            tokens.step();
            if (!tokens.isWordFrom(W_LEAN, W_KNOCK)) {
                fail(FAULT_TOKEN);
                return;
            }
            int law = tokens.value - W_LEAN;
            if (law < 0 || law >= LAWS || plan.isLaw(law)) {
                fail(FAULT_TOLD);
                return;
            }
            tokens.step();
            int from = plan.coded;
            int wrong = formula.readInto(plan);
            if (wrong != 0) {
                fail(wrong);
            }
            plan.lawFrom[law] = from;
            plan.lawTo[law] = plan.coded;
            plan.lawNames[law] = formula.names;
        }

        private void readGate() {
            int number = plan.gateCount;
            if (number < 0 || number >= GATES_MOST) {
                fail(FAULT_TOO_MUCH);
                return;
            }
            tokens.step();
            Told gate = plan.gates[number];
            plan.gateNames[number] = readNewName(plan.gateNames, number);
            gate.length = readNumber(24, 144);
            gate.setHeight(readNumber(24, 72));
            gate.weight = readNumber(20, 400);
            for (int i = 0; i <= TAPE_MOST && fault == 0 && tokens.isWordFrom(W_HOOKS, W_HAS); i++) {
                readPart(gate);
            }
            plan.gateCount = number + 1;
        }

        private void readPart(Told gate) {
            int word = tokens.value;
            if (word != W_HAS && (gate.parts & 1 << word) != 0) {
                fail(FAULT_TOLD);
                return;
            }
            gate.parts |= 1 << word;
            tokens.step();
            switch (word) {
                case W_HOOKS:
                    gate.lower = readNumber(0, gate.height);
                    gate.upper = readNumber(gate.lower + 1, gate.height);
                    gate.out = readNumber(-OFFSET_MOST, OFFSET_MOST);
                    gate.aside = readNumber(-OFFSET_MOST, OFFSET_MOST);
                    break;
                case W_POST:
                    gate.deep = readNumber(DEEP_LEAST, DEEP_MOST);
                    gate.thick = readNumber(3, 14);
                    break;
                case W_BRACE:
                    readBrace(gate);
                    break;
                case W_LATCH:
                    gate.mayRise = readNumber(0, 9999);
                    gate.mayDrop = readNumber(0, 9999);
                    break;
                case W_CHILD:
                    gate.child = readNumber(0, CHILD_MOST);
                    break;
                case W_GAP:
                    gate.gap = readNumber(0, 9999);
                    break;
                case W_RISE:
                    for (int i = 0; i < gate.rise.length; i++) {
                        gate.rise[i] = readNumber(0, 200);
                    }
                    break;
                default:
                    readHas(gate);
                    break;
            }
        }

        private void readBrace(Told gate) {
            if (!tokens.isWordFrom(W_UP, W_DOWN)) {
                fail(FAULT_TOKEN);
                return;
            }
            gate.brace = tokens.value == W_UP ? BRACE_UP : BRACE_DOWN;
            tokens.step();
        }

        private void readHas(Told gate) {
            if (tokens.kind != T_NAME) {
                fail(FAULT_TOKEN);
                return;
            }
            int cause = placeOf(tokens.value, plan.causeNames, plan.causeCount);
            if (cause == NONE) {
                fail(FAULT_NO_CAUSE);
                return;
            }
            if ((gate.causes & 1 << cause) != 0) {
                fail(FAULT_TOLD);
                return;
            }
            gate.causes |= 1 << cause;
            tokens.step();
        }

        private void readWork() {
            int number = plan.workCount;
            if (number < 0 || number >= WORKS_MOST) {
                fail(FAULT_TOO_MUCH);
                return;
            }
            tokens.step();
            plan.workNames[number] = readNewName(plan.workNames, number);
            plan.workCosts[number] = readNumber(1, 999);
            int kind = fault == 0 && tokens.kind == T_WORD ? kindOf(tokens.value) : NONE;
            if (kind == NONE) {
                fail(FAULT_TOKEN);
                return;
            }
            tokens.step();
            int most = mostOf(kind);
            plan.workKinds[number] = kind;
            plan.workNumbers[number] = most >= 0 ? readNumber(0, most) : 0;
            plan.workCount = number + 1;
        }

        private static int kindOf(int word) {
            switch (word) {
                case W_BRACE: return K_BRACE;
                case W_SQUARE: return K_SQUARE;
                case W_WIRE: return K_WIRE;
                case W_WHEEL: return K_WHEEL;
                case W_STONES: return K_STONES;
                case W_POST: return K_POST;
                case W_REHANG: return K_REHANG;
                default: return NONE;
            }
        }

        /** The greatest number that may stand behind a kind of work; NONE if none may. */
        private static int mostOf(int kind) {
            switch (kind) {
                case K_WIRE:
                case K_REHANG: return 9999;
                case K_WHEEL: return 100;
                case K_STONES: return 99;
                case K_POST: return DEEP_MOST;
                default: return NONE;
            }
        }

        private void readCause() {
            int number = plan.causeCount;
            if (number < 0 || number >= CAUSES_MOST) {
                fail(FAULT_TOO_MUCH);
                return;
            }
            tokens.step();
            plan.causeNames[number] = readNewName(plan.causeNames, number);
            plan.causeWeights[number] = readNumber(1, 99);
            if (fault != 0 || !tokens.isWordFrom(W_LEAN, W_BEND)) {
                fail(FAULT_TOKEN);
                return;
            }
            plan.causeKinds[number] = tokens.value - W_LEAN;
            tokens.step();
            plan.causeNumbers[number] = readNumber(1, 999);
            plan.causeCount = number + 1;
        }
    }

    /** Works laws out. What a law gave is used again while none of the names that it uses has changed. */
    private static final class Laws {
        final long[] values = new long[NAMES];
        final long[] stack = new long[KNOTS_MOST];
        final int[] growth = new int[GROWING];
        int stale = -1;
        boolean error;

        void forget() {
            stale = -1;
            for (int i = 0; i < GROWING; i++) {
                growth[i] = 0;
            }
        }

        private void put(int name, long value) {
            if (name >= 0 && name < NAMES && values[name] != value) {
                values[name] = value;
                stale |= 1 << name;
            }
        }

        void see(Plan plan, Gate gate, int week, int fall) {
            put(N_PULL, gate.pull());
            put(N_FIRM, plan.firmIn(week) + gate.stones);
            put(N_DEEP, gate.deep);
            put(N_THICK, gate.told.thick);
            put(N_UP, gate.brace == BRACE_UP ? 1 : 0);
            put(N_DOWN, gate.brace == BRACE_DOWN ? 1 : 0);
            put(N_DROP, gate.drop());
            put(N_WEEK, week);
            put(N_CHILD, gate.child);
            put(N_FALL, fall);
        }

        /** So many weeks go by for one gate, from a week on. */
        void pass(Plan plan, Gate gate, int from, int n) {
            for (int week = from; week < from + n; week++) {
                see(plan, gate, week, 0);
                for (int law = 0; law < GROWING; law++) {
                    refresh(plan, law);
                }
                stale = 0;
                gate.grow(growth[0], growth[1], growth[2]);
            }
        }

        private void refresh(Plan plan, int law) {
            // All bits are stale behind a new text: then a law without names is worked out, too.
            boolean changed = stale == -1 || (plan.lawNames[law] & stale) != 0;
            if (changed && plan.isLaw(law)) {
                long value = workOut(plan, law);
                growth[law] = error ? 0 : (int) Math.max(0, Math.min(GROWTH_MOST, value));
            }
        }

        /** The value of a law by the names as they are; error tells whether there is none. */
        long workOut(Plan plan, int law) {
            error = law < 0 || law >= LAWS;
            int top = 0;
            for (int i = error ? KNOTS_MOST : plan.lawFrom[law]; i < KNOTS_MOST && i < plan.lawTo[law]; i++) {
                int knot = i >= 0 ? plan.code[i] : 0;
                int taken = knot < SIGN_BASE ? 0 : knot == S_NOT ? 1 : 2;
                int to = top - taken;
                if (to < 0 || to >= KNOTS_MOST) {
                    error = true;
                    return 0;
                }
                if (taken == 0) {
                    stack[to] = valueOf(knot);
                } else if (taken == 1) {
                    stack[to] = stack[to] == 0 ? 1 : 0;
                } else if (to + 1 < KNOTS_MOST) {
                    stack[to] = join(knot, stack[to], stack[to + 1]);
                }
                if (error) {
                    return 0;
                }
                top = to + 1;
            }
            return stack[0];
        }

        private long valueOf(int knot) {
            int name = knot - NAME_BASE;
            return name >= 0 && name < NAMES ? values[name] : knot;
        }

        private long join(int sign, long left, long right) {
            switch (sign) {
                case S_OR: return left != 0 || right != 0 ? 1 : 0;
                case S_AND: return left != 0 && right != 0 ? 1 : 0;
                case S_LESS: return left < right ? 1 : 0;
                case S_LESS_SAME: return left <= right ? 1 : 0;
                case S_SAME: return left == right ? 1 : 0;
                case S_OTHER: return left != right ? 1 : 0;
                case S_MORE_SAME: return left >= right ? 1 : 0;
                case S_MORE: return left > right ? 1 : 0;
                case S_PLUS: return bounded(left + right);
                case S_MINUS: return bounded(left - right);
                case S_TIMES: return times(left, right);
                default: return by(left, right);
            }
        }

        private long bounded(long value) {
            error = value > VALUE_MOST || value < -VALUE_MOST;
            return value;
        }

        private long times(long left, long right) {
            // The product itself may not fit into a long, so the bound is divided instead.
            error = left != 0 && Math.abs(right) > VALUE_MOST / Math.abs(left);
            return error ? 0 : left * right;
        }

        private long by(long left, long right) {
            error = right == 0;
            return right == 0 ? 0 : left / right;
        }
    }

    /** The gates as they were ahead of the latest works. */
    private static final class Undone {
        final Gate[] before = new Gate[UNDO_MOST];
        final int[] numbers = new int[UNDO_MOST];
        int count;

        Undone(Told untold) {
            for (int i = 0; i < UNDO_MOST; i++) {
                before[i] = new Gate(untold);
            }
        }

        void clear() {
            count = 0;
        }

        void push(int number, Gate gate) {
            if (count >= UNDO_MOST) {
                dropEarliest();
            }
            if (count >= 0 && count < UNDO_MOST) {
                before[count].copy(gate);
                numbers[count] = number;
                count++;
            }
        }

        private void dropEarliest() {
            Gate earliest = before[0];
            for (int i = 1; i < UNDO_MOST; i++) {
                before[i - 1] = before[i];
                numbers[i - 1] = numbers[i];
            }
            before[UNDO_MOST - 1] = earliest;
            count = UNDO_MOST - 1;
        }

        int latestGate() {
            return count > 0 && count <= UNDO_MOST ? numbers[count - 1] : NONE;
        }

        void popInto(Gate gate) {
            if (count > 0 && count <= UNDO_MOST) {
                count--;
                gate.copy(before[count]);
            }
        }
    }

    /** Measures and strikes, numbered together as they come. */
    private static final class Notes {
        final int[] gates = new int[MEASURES_MOST];
        final int[] weeks = new int[MEASURES_MOST];
        final int[] whats = new int[MEASURES_MOST];
        final int[] lows = new int[MEASURES_MOST];
        final int[] highs = new int[MEASURES_MOST];
        final int[] strikes = new int[MEASURES_MOST];
        final boolean[] struck = new boolean[MEASURES_MOST];
        final int[] picked = new int[MEASURES_MOST];
        int pickedCount;
        int count;
        int knownBy = NONE;

        void clear() {
            count = 0;
            knownBy = NONE;
        }

        int knownCount() {
            return knownBy == NONE ? count : knownBy;
        }

        int add(int gate, int week, int what, int low, int high) {
            if (count < 0 || count >= MEASURES_MOST) {
                return NONE;
            }
            gates[count] = gate;
            weeks[count] = week;
            whats[count] = what;
            lows[count] = low;
            highs[count] = high;
            strikes[count] = NONE;
            count++;
            return count - 1;
        }

        int addStrike(int measure) {
            if (count < 0 || count >= MEASURES_MOST) {
                return NONE;
            }
            gates[count] = NONE;
            strikes[count] = measure;
            count++;
            return count - 1;
        }

        /** Picks what is known of a gate; answers the latest week of it, NONE if nothing is. */
        int pick(int gate) {
            findStruck();
            pickedCount = 0;
            int latest = NONE;
            for (int i = 0; i < knownCount() && i < MEASURES_MOST; i++) {
                if (!struck[i] && strikes[i] == NONE && gates[i] == gate) {
                    picked[pickedCount] = i;
                    pickedCount++;
                    latest = Math.max(latest, weeks[i]);
                }
            }
            return latest;
        }

        private void findStruck() {
            for (int i = 0; i < MEASURES_MOST; i++) {
                struck[i] = false;
            }
            // A strike is struck by later ones alone, so from the last one on each is settled when its turn comes.
            for (int i = Math.min(knownCount(), MEASURES_MOST) - 1; i >= 0; i--) {
                if (!struck[i] && strikes[i] >= 0 && strikes[i] < MEASURES_MOST) {
                    struck[strikes[i]] = true;
                }
            }
        }

        /** Whether what was picked of a week is so with a gate as it is behind that week. */
        boolean agree(Gate gate, int week) {
            for (int i = 0; i < pickedCount && i < MEASURES_MOST; i++) {
                int note = picked[i];
                if (note >= 0 && note < MEASURES_MOST && weeks[note] == week) {
                    int measured = gate.measured(whats[note]);
                    if (measured < lows[note] || measured > highs[note]) {
                        return false;
                    }
                }
            }
            return true;
        }
    }

    /** Runs of a gate from week 0 on with one cause alone, or none, against what is known of it. */
    private static final class Trials {
        final int[] behind = new int[(CAUSES_MOST + 1) * MEASURABLE];
        final Gate run;
        int fitting;

        Trials(Told untold) {
            run = new Gate(untold);
        }

        /** Finds which causes fit, and what each gives ahead of a week. */
        void judge(Plan plan, Laws laws, Notes notes, int gate, int ahead) {
            int last = Math.max(notes.pick(gate), ahead - 1);
            fitting = 0;
            for (int cause = 0; cause <= plan.causeCount; cause++) {
                run.begin(plan, gate);
                run.setCauses(plan, cause < plan.causeCount ? 1 << cause : 0);
                record(cause);
                boolean fits = true;
                for (int week = 0; week <= last && fits; week++) {
                    laws.pass(plan, run, week, 1);
                    fits = notes.agree(run, week);
                    if (week == ahead - 1) {
                        record(cause);
                    }
                }
                fitting |= fits ? 1 << cause : 0;
            }
        }

        private void record(int cause) {
            for (int what = 0; what < MEASURABLE; what++) {
                int at = cause * MEASURABLE + what;
                if (at >= 0 && at < behind.length) {
                    behind[at] = run.measured(what);
                }
            }
        }

        private int recorded(int cause, int what) {
            int at = cause * MEASURABLE + what;
            return at >= 0 && at < behind.length ? behind[at] : 0;
        }

        int weightOfFitting(Plan plan) {
            int weight = 0;
            for (int cause = 0; cause <= plan.causeCount; cause++) {
                weight += (fitting & 1 << cause) != 0 ? plan.weightOf(cause) : 0;
            }
            return weight;
        }

        int heaviestGroup(Plan plan, int what) {
            int heaviest = 0;
            for (int one = 0; one <= plan.causeCount; one++) {
                int weight = 0;
                for (int other = 0; other <= plan.causeCount; other++) {
                    boolean bothFit = (fitting & 1 << one) != 0 && (fitting & 1 << other) != 0;
                    if (bothFit && recorded(one, what) == recorded(other, what)) {
                        weight += plan.weightOf(other);
                    }
                }
                heaviest = Math.max(heaviest, weight);
            }
            return heaviest;
        }
    }

    /** Which gate has which turn. */
    private static final class Turns {
        final int[] costs = new int[GATES_MOST * GATES_MOST];
        final int[] order = new int[GATES_MOST];
        final int[] best = new int[GATES_MOST];
        int leastSum;

        void tell(int gate, int turn, int cost) {
            int at = gate * GATES_MOST + turn;
            if (at >= 0 && at < costs.length) {
                costs[at] = cost;
            }
        }

        /** Goes through all rows of gates as through numbers, so that the first of the best ones is kept. */
        void choose(int count) {
            int rows = 1;
            for (int i = 0; i < count; i++) {
                rows *= GATES_MOST;
            }
            leastSum = NONE;
            for (int row = 0; row < rows; row++) {
                int sum = sumOf(row, count);
                if (sum != NONE && (leastSum == NONE || sum < leastSum)) {
                    leastSum = sum;
                    for (int i = 0; i < GATES_MOST; i++) {
                        best[i] = order[i];
                    }
                }
            }
        }

        /** The sum of an order whose gates are the digits of row; NONE if it is not one of all gates. */
        private int sumOf(int row, int count) {
            int seen = 0;
            int sum = 0;
            int rest = row;
            for (int turn = Math.min(count, GATES_MOST) - 1; turn >= 0; turn--) {
                int gate = rest % GATES_MOST;
                rest /= GATES_MOST;
                if (gate < 0 || gate >= count || (seen & 1 << gate) != 0) {
                    return NONE;
                }
                seen |= 1 << gate;
                order[turn] = gate;
                sum += costs[gate * GATES_MOST + turn];
            }
            return sum;
        }

        int gateAt(int turn) {
            return turn >= 0 && turn < GATES_MOST ? best[turn] : NONE;
        }
    }
}
