import java.util.Arrays;

/**
 * Four small functions told as texts: how their runs end by four ways of working arguments,
 * and tables of what may come of what is there. README.md says how it is used.
 */
public final class NeedTables {
    public static final int UNKNOWN = -1, OUTSIDE = -2, FULL = -4, NO = -5, NONE = -6;

    private static final int FUNCTIONS = 4;
    private static final int MOST_ARGUMENTS = 3;
    private static final int[] ARGUMENTS_OF = {1, 2, 3, 2};
    /** How many rows of told ARGUMENTS a FUNCTION has: 9 to the power of its ARGUMENTS. */
    private static final int[] TOLD_ROWS = {9, 81, 729, 81};
    /** How many of those rows tell NUMBERS alone: 8 to the power of its ARGUMENTS. */
    private static final int[] NUMBER_ROWS = {8, 64, 512, 64};

    private static final int LEAST_SIGN = 33;
    private static final int GREATEST_SIGN = 126;
    private static final int MOST_SIGNS = 30;
    private static final int MOST_AROUND = 9;
    /** A text's PLACE is its NODE behind the 30 of each FUNCTION before its own. */
    private static final int PLACES = FUNCTIONS * MOST_SIGNS;

    private static final int MOST_STEPS = 300;
    private static final int NOTHING = 8;
    private static final int SPENT = 9;

    private static final int WAYS = 4;
    private static final int BY_NAME = 0;
    private static final int BY_NEED = 1;
    private static final int AHEAD = 2;
    private static final int SAFE = 3;

    private final Pad pad;
    private final Reader reader;
    private final Bodies bodies;
    private final Tables tables;
    private final Counts counts;
    private final Outcomes outcomes;

    public NeedTables() {
        pad = new Pad();
        reader = new Reader();
        bodies = new Bodies();
        tables = new Tables(bodies);
        counts = new Counts(bodies);
        outcomes = new Outcomes(new Machine(bodies, tables));
        tables.renew();
        counts.renew();
    }

    // ---- 1 bodies

    public int say(int sign) {
        if (sign < LEAST_SIGN || sign > GREATEST_SIGN) {
            return OUTSIDE;
        }
        return pad.add(sign) ? pad.count() : FULL;
    }

    public int wipe() {
        int count = pad.count();
        pad.clear();
        return count;
    }

    public int fault(int function) {
        return isFunction(function) ? reader.firstFault(pad, function) : UNKNOWN;
    }

    public int body(int function) {
        if (!isFunction(function)) {
            return UNKNOWN;
        }
        if (reader.firstFault(pad, function) != NONE) {
            return NO;
        }
        bodies.put(function, pad);
        pad.clear();
        // Any FUNCTION may call the one that changed, so all that was worked out is old.
        tables.renew();
        counts.renew();
        outcomes.forget();
        return bodies.count(function);
    }

    public int node(int function, int node, int what) {
        if (!hasNode(function, node)) {
            return UNKNOWN;
        }
        int place = bodies.root(function) + node;
        switch (what) {
            case 0:
                return bodies.signAt(place);
            case 1:
                return bodies.spanAt(place);
            case 2:
                return bodies.depthAt(place);
            default:
                return OUTSIDE;
        }
    }

    // ---- 2 runs

    public int run(int function, int arguments, int way, int what) {
        if (!isFunction(function)) {
            return UNKNOWN;
        }
        if (arguments < 0 || arguments >= TOLD_ROWS[function] || !isWay(way)) {
            return OUTSIDE;
        }
        switch (what) {
            case 0:
                return Outcomes.endIn(outcomes.of(function, arguments, way));
            case 1:
                return Outcomes.stepsIn(outcomes.of(function, arguments, way));
            default:
                return OUTSIDE;
        }
    }

    // ---- 3 tables

    public int may(int function, int there) {
        if (!isFunction(function)) {
            return UNKNOWN;
        }
        if (there < 0 || there > allArguments(function)) {
            return OUTSIDE;
        }
        return asAnswer(tables.has(function, there));
    }

    public int must(int function) {
        return isFunction(function) ? tables.neededOf(function) : UNKNOWN;
    }

    public int joint(int function, int i) {
        if (!isFunction(function)) {
            return UNKNOWN;
        }
        int found = 0;
        for (int set = 0; set <= allArguments(function); set++) {
            if (tables.isJoint(function, set)) {
                if (found == i) {
                    return set;
                }
                found++;
            }
        }
        return i == -1 ? found : NONE;
    }

    public int uses(int function, int argument) {
        return hasArgument(function, argument) ? counts.of(function, argument) : UNKNOWN;
    }

    public int part(int function, int node, int what) {
        if (!hasNode(function, node)) {
            return UNKNOWN;
        }
        int place = bodies.root(function) + node;
        switch (what) {
            case 0:
                return asAnswer(tables.hasAt(place, allArguments(function)));
            case 1:
                return tables.neededAt(place, function);
            default:
                return OUTSIDE;
        }
    }

    // ---- 4 all arguments

    public int ends(int function, int what) {
        if (!isFunction(function)) {
            return UNKNOWN;
        }
        if (what < 0 || what > 2) {
            return OUTSIDE;
        }
        int found = 0;
        for (int row = 0; row < NUMBER_ROWS[function]; row++) {
            int outcome = outcomes.of(function, numbersTold(row, function), BY_NEED);
            if (sortOfEnd(Outcomes.endIn(outcome)) == what) {
                found++;
            }
        }
        return found;
    }

    public int matters(int function, int argument) {
        if (!hasArgument(function, argument)) {
            return UNKNOWN;
        }
        int digit = 7 << shiftOf(function, argument);
        for (int row = 0; row < NUMBER_ROWS[function]; row++) {
            // All rows that differ in it alone END alike, if each does as the one with 0 there.
            int own = outcomes.of(function, numbersTold(row, function), BY_NEED);
            int withZero = outcomes.of(function, numbersTold(row & ~digit, function), BY_NEED);
            if (Outcomes.endIn(own) != Outcomes.endIn(withZero)) {
                return 1;
            }
        }
        return 0;
    }

    public int steps(int function, int way) {
        if (!isFunction(function)) {
            return UNKNOWN;
        }
        if (!isWay(way)) {
            return OUTSIDE;
        }
        int sum = 0;
        for (int row = 0; row < NUMBER_ROWS[function]; row++) {
            int told = numbersTold(row, function);
            if (Outcomes.endIn(outcomes.of(function, told, BY_NEED)) < NOTHING) {
                sum += Outcomes.stepsIn(outcomes.of(function, told, way));
            }
        }
        return sum;
    }

    public int unlike(int function, int way, int other, int what) {
        if (!isFunction(function)) {
            return UNKNOWN;
        }
        if (!isWay(way) || !isWay(other) || what < 0 || what > 1) {
            return OUTSIDE;
        }
        int found = 0;
        for (int told = 0; told < TOLD_ROWS[function]; told++) {
            int end = Outcomes.endIn(outcomes.of(function, told, way));
            if (end != Outcomes.endIn(outcomes.of(function, told, other))) {
                if (what == 1) {
                    return told;
                }
                found++;
            }
        }
        return what == 1 ? NONE : found;
    }

    public int told(int what) {
        if (what < 0 || what > FUNCTIONS) {
            return OUTSIDE;
        }
        return what == 0 ? pad.count() : bodies.count(what - 1);
    }

    // ---- what the calls ask of their numbers

    private static boolean isFunction(int function) {
        return function >= 0 && function < FUNCTIONS;
    }

    private static boolean hasArgument(int function, int argument) {
        return isFunction(function) && argument >= 0 && argument < ARGUMENTS_OF[function];
    }

    private boolean hasNode(int function, int node) {
        return isFunction(function) && node >= 0 && node < bodies.count(function);
    }

    private static boolean isWay(int way) {
        return way >= 0 && way < WAYS;
    }

    private static boolean isPlace(int place) {
        return place >= 0 && place < PLACES;
    }

    private static int asAnswer(boolean holds) {
        return holds ? 1 : 0;
    }

    private static int argumentsOf(int function) {
        return isFunction(function) ? ARGUMENTS_OF[function] : 0;
    }

    /** The set of all ARGUMENTS of a FUNCTION, as bits. */
    private static int allArguments(int function) {
        return (1 << argumentsOf(function)) - 1;
    }

    /** Where an ARGUMENT's digit of eight stands in a row of NUMBERS; x the highest. */
    private static int shiftOf(int function, int argument) {
        return 3 * (argumentsOf(function) - 1 - argument);
    }

    /** A row's digits of eight, told as digits of nine. */
    private static int numbersTold(int row, int function) {
        int told = 0;
        for (int argument = 0; argument < argumentsOf(function); argument++) {
            told = told * 9 + (row >> shiftOf(function, argument) & 7);
        }
        return told;
    }

    /** 0 a NUMBER, 1 NOTHING, 2 SPENT. */
    private static int sortOfEnd(int end) {
        return end < NOTHING ? 0 : end - NOTHING + 1;
    }

    /** What a sign stands for. */
    private static final class Signs {
        static final int UNFIT = 0, NUMBER = 1, BLANK = 2, ARGUMENT = 3, ACT = 4, CHOICE = 5, CALL = 6;

        static int kindOf(int sign) {
            if (sign >= '0' && sign <= '7') {
                return NUMBER;
            }
            if (sign >= 'x' && sign <= 'z') {
                return ARGUMENT;
            }
            switch (sign) {
                case '!':
                    return BLANK;
                case '+':
                case '-':
                case '*':
                case 'm':
                    return ACT;
                case '?':
                    return CHOICE;
                case 'f':
                case 'g':
                case 'h':
                case 'k':
                    return CALL;
                default:
                    return UNFIT;
            }
        }

        /** Which NUMBER, ARGUMENT, ACT or FUNCTION of its kind a sign names. */
        static int worthOf(int sign) {
            switch (kindOf(sign)) {
                case NUMBER:
                    return sign - '0';
                case ARGUMENT:
                    return sign - 'x';
                case CALL:
                    return sign == 'k' ? 3 : sign - 'f';
                default:
                    return sign;
            }
        }

        static int textsOf(int sign) {
            switch (kindOf(sign)) {
                case ACT:
                    return 2;
                case CHOICE:
                    return 3;
                case CALL:
                    return argumentsOf(worthOf(sign));
                default:
                    return 0;
            }
        }
    }

    /** The PAD. */
    private static final class Pad {
        private final int[] signs = new int[MOST_SIGNS];
        private int count;

        int count() {
            return count;
        }

        /** Whether there was room. */
        boolean add(int sign) {
            if (count < 0 || count >= MOST_SIGNS) {
                return false;
            }
            signs[count] = sign;
            count++;
            return true;
        }

        void clear() {
            count = 0;
        }

        int signAt(int place) {
            return place >= 0 && place < count && place < MOST_SIGNS ? signs[place] : 0;
        }
    }

    /** Finds THE FAULT of a PAD: it goes along the signs and keeps what must still come. */
    private static final class Reader {
        /** For each text that is open, and for the whole: how many texts must still come. */
        private final int[] missing = new int[MOST_AROUND + 1];
        /** Within how many others the next text lies; -1: none may come. */
        private int level;

        int firstFault(Pad pad, int function) {
            level = 0;
            missing[0] = 1;
            for (int place = 0; place < pad.count(); place++) {
                int sign = pad.signAt(place);
                if (!canStand(sign, function)) {
                    return place;
                }
                pass(Signs.textsOf(sign));
            }
            return level < 0 ? NONE : pad.count();
        }

        private boolean canStand(int sign, int function) {
            if (level < 0 || Signs.kindOf(sign) == Signs.UNFIT) {
                return false;
            }
            if (Signs.kindOf(sign) == Signs.ARGUMENT) {
                return hasArgument(function, Signs.worthOf(sign));
            }
            return level < MOST_AROUND || Signs.textsOf(sign) == 0;
        }

        private void pass(int texts) {
            if (level >= 0 && level <= MOST_AROUND) {
                missing[level]--;
            }
            if (texts > 0 && level >= 0 && level < MOST_AROUND) {
                level++;
                missing[level] = texts;
            }
            while (level >= 0 && level <= MOST_AROUND && missing[level] == 0) {
                level--;
            }
        }
    }

    /** The four BODIES, one behind the other; each text is known by its PLACE. */
    private static final class Bodies {
        private final int[] counts = new int[FUNCTIONS];
        private final int[] signs = new int[PLACES];
        private final int[] kinds = new int[PLACES];
        private final int[] worths = new int[PLACES];
        private final int[] spans = new int[PLACES];
        private final int[] depths = new int[PLACES];

        Bodies() {
            for (int function = 0; function < FUNCTIONS; function++) {
                counts[function] = 1;
                setSign(root(function), '!');
                measure(function);
            }
        }

        /** The pad's text has no FAULT for the FUNCTION. */
        void put(int function, Pad pad) {
            if (!isFunction(function)) {
                return;
            }
            counts[function] = pad.count();
            for (int node = 0; node < pad.count(); node++) {
                setSign(root(function) + node, pad.signAt(node));
            }
            measure(function);
        }

        private void setSign(int place, int sign) {
            if (isPlace(place)) {
                signs[place] = sign;
                kinds[place] = Signs.kindOf(sign);
                worths[place] = Signs.worthOf(sign);
            }
        }

        /** Spans from the end, since a text's own texts stand behind it; depths from the front. */
        private void measure(int function) {
            int root = root(function);
            for (int place = root + count(function) - 1; place >= root; place--) {
                setSpan(place, textPlace(place, Signs.textsOf(signAt(place))) - place);
            }
            setDepth(root, 0);
            for (int place = root; place < root + count(function); place++) {
                int texts = Signs.textsOf(signAt(place));
                for (int text = 0; text < texts; text++) {
                    setDepth(textPlace(place, text), depthAt(place) + 1);
                }
            }
        }

        private void setSpan(int place, int span) {
            if (isPlace(place)) {
                spans[place] = span;
            }
        }

        private void setDepth(int place, int depth) {
            if (isPlace(place)) {
                depths[place] = depth;
            }
        }

        int count(int function) {
            return isFunction(function) ? counts[function] : 0;
        }

        int root(int function) {
            return isFunction(function) ? function * MOST_SIGNS : 0;
        }

        /** Where the text-th of a text's own texts begins; behind the last one, where the text ends. */
        int textPlace(int place, int text) {
            int at = place + 1;
            for (int before = 0; before < text && at >= 0 && at < PLACES; before++) {
                at += spans[at];
            }
            return at;
        }

        int signAt(int place) {
            return isPlace(place) ? signs[place] : '!';
        }

        int kindAt(int place) {
            return isPlace(place) ? kinds[place] : Signs.BLANK;
        }

        int worthAt(int place) {
            return isPlace(place) ? worths[place] : 0;
        }

        int spanAt(int place) {
            return isPlace(place) ? spans[place] : 1;
        }

        int depthAt(int place) {
            return isPlace(place) ? depths[place] : 0;
        }
    }

    /**
     * The TABLES. A row of bits stands for all eight sets of ARGUMENTS at once: bit s is on if a NUMBER
     * MAY come while the ARGUMENTS of set s are there. Sets of ARGUMENTS that a FUNCTION lacks are
     * carried along; no text of it asks for those.
     */
    private static final class Tables {
        private static final int SETS = 1 << MOST_ARGUMENTS;
        private static final int ALL_SETS = (1 << SETS) - 1;
        /** For each ARGUMENT the sets that have it. */
        private static final int[] SETS_WITH = {0xAA, 0xCC, 0xF0};
        /** Each round but the last one turns on a bit of some table. */
        private static final int MOST_ROUNDS = FUNCTIONS * SETS + 1;

        private final Bodies bodies;
        private final int[] rows = new int[PLACES];
        private final int[] table = new int[FUNCTIONS];
        /** For each FUNCTION the ARGUMENTS that MUST be; each RUN in WAY 3 asks for them. */
        private final int[] needed = new int[FUNCTIONS];

        Tables(Bodies bodies) {
            this.bodies = bodies;
        }

        /** From nothing upwards, all tables in step, so that what stays is the least. */
        void renew() {
            Arrays.fill(table, 0);
            boolean grown = true;
            for (int round = 0; grown && round < MOST_ROUNDS; round++) {
                fillRows();
                grown = takeRoots();
            }
            for (int function = 0; function < FUNCTIONS; function++) {
                needed[function] = neededAt(bodies.root(function), function);
            }
        }

        private void fillRows() {
            for (int function = 0; function < FUNCTIONS; function++) {
                int root = bodies.root(function);
                for (int place = root + bodies.count(function) - 1; place >= root; place--) {
                    setRow(place, rowOf(place));
                }
            }
        }

        private boolean takeRoots() {
            boolean changed = false;
            for (int function = 0; function < FUNCTIONS; function++) {
                int row = rowAt(bodies.root(function));
                changed = changed || row != table[function];
                table[function] = row;
            }
            return changed;
        }

        private int rowOf(int place) {
            switch (bodies.kindAt(place)) {
                case Signs.NUMBER:
                    return ALL_SETS;
                case Signs.ARGUMENT:
                    return setsWith(bodies.worthAt(place));
                case Signs.ACT:
                    return textRow(place, 0) & textRow(place, 1);
                case Signs.CHOICE:
                    return textRow(place, 0) & (textRow(place, 1) | textRow(place, 2));
                case Signs.CALL:
                    return callRow(place, bodies.worthAt(place));
                default:
                    return 0;
            }
        }

        private int callRow(int place, int callee) {
            int row = 0;
            for (int set = 0; set < SETS; set++) {
                int there = 0;
                for (int text = 0; text < argumentsOf(callee); text++) {
                    there |= (textRow(place, text) >> set & 1) << text;
                }
                if (has(callee, there)) {
                    row |= 1 << set;
                }
            }
            return row;
        }

        private int textRow(int place, int text) {
            int at = bodies.textPlace(place, text);
            return isPlace(at) ? rows[at] : 0;
        }

        private int rowAt(int place) {
            return isPlace(place) ? rows[place] : 0;
        }

        private void setRow(int place, int row) {
            if (isPlace(place)) {
                rows[place] = row;
            }
        }

        private static int setsWith(int argument) {
            return argument >= 0 && argument < MOST_ARGUMENTS ? SETS_WITH[argument] : 0;
        }

        boolean has(int function, int there) {
            return isFunction(function) && (table[function] >> there & 1) == 1;
        }

        boolean hasAt(int place, int there) {
            return (rowAt(place) >> there & 1) == 1;
        }

        /** The ARGUMENTS of a FUNCTION that MUST be, as bits. */
        int neededOf(int function) {
            return isFunction(function) ? needed[function] : 0;
        }

        /** The ARGUMENTS of a FUNCTION that the text at a PLACE MUST have, as bits. */
        int neededAt(int place, int function) {
            int bits = 0;
            for (int argument = 0; argument < argumentsOf(function); argument++) {
                if (!hasAt(place, allArguments(function) & ~(1 << argument))) {
                    bits |= 1 << argument;
                }
            }
            return bits;
        }

        boolean isJoint(int function, int set) {
            if (!stops(function, set)) {
                return false;
            }
            for (int smaller = 0; smaller < set; smaller++) {
                if ((smaller & ~set) == 0 && stops(function, smaller)) {
                    return false;
                }
            }
            return true;
        }

        /** Whether nothing MAY come of all ARGUMENTS but those of a set. */
        private boolean stops(int function, int set) {
            return !has(function, allArguments(function) & ~set);
        }
    }

    /** The USES. */
    private static final class Counts {
        private static final int MANY = 2;
        /** Each round but the last one makes some count of a FUNCTION greater. */
        private static final int MOST_ROUNDS = FUNCTIONS * MOST_ARGUMENTS * MANY + 1;

        private final Bodies bodies;
        /** The count at each PLACE, of the ARGUMENT that is gone through. */
        private final int[] counted = new int[PLACES];
        private final int[] known = new int[FUNCTIONS * MOST_ARGUMENTS];
        private final int[] next = new int[FUNCTIONS * MOST_ARGUMENTS];

        Counts(Bodies bodies) {
            this.bodies = bodies;
        }

        /** From none upwards, all counts in step, so that what stays is the least. */
        void renew() {
            Arrays.fill(known, 0);
            boolean grown = true;
            for (int round = 0; grown && round < MOST_ROUNDS; round++) {
                for (int slot = 0; slot < FUNCTIONS * MOST_ARGUMENTS; slot++) {
                    next[slot] = countIn(slot / MOST_ARGUMENTS, slot % MOST_ARGUMENTS);
                }
                grown = takeNext();
            }
        }

        private boolean takeNext() {
            boolean changed = false;
            for (int slot = 0; slot < FUNCTIONS * MOST_ARGUMENTS; slot++) {
                changed = changed || next[slot] != known[slot];
                known[slot] = next[slot];
            }
            return changed;
        }

        private int countIn(int function, int argument) {
            int root = bodies.root(function);
            for (int place = root + bodies.count(function) - 1; place >= root; place--) {
                setCount(place, countOf(place, argument));
            }
            return countAt(root);
        }

        private int countOf(int place, int argument) {
            switch (bodies.kindAt(place)) {
                case Signs.ARGUMENT:
                    return bodies.worthAt(place) == argument ? 1 : 0;
                case Signs.ACT:
                    return Math.min(MANY, textCount(place, 0) + textCount(place, 1));
                case Signs.CHOICE:
                    int greater = Math.max(textCount(place, 1), textCount(place, 2));
                    return Math.min(MANY, textCount(place, 0) + greater);
                case Signs.CALL:
                    return callCount(place, bodies.worthAt(place));
                default:
                    return 0;
            }
        }

        private int callCount(int place, int callee) {
            int sum = 0;
            for (int text = 0; text < argumentsOf(callee); text++) {
                sum += of(callee, text) * textCount(place, text);
            }
            return Math.min(MANY, sum);
        }

        private int textCount(int place, int text) {
            int at = bodies.textPlace(place, text);
            return isPlace(at) ? counted[at] : 0;
        }

        private int countAt(int place) {
            return isPlace(place) ? counted[place] : 0;
        }

        private void setCount(int place, int count) {
            if (isPlace(place)) {
                counted[place] = count;
            }
        }

        int of(int function, int argument) {
            if (!isFunction(function) || argument < 0 || argument >= MOST_ARGUMENTS) {
                return 0;
            }
            return known[function * MOST_ARGUMENTS + argument];
        }
    }

    /**
     * Works a RUN, a text at a time. Texts that wait for one of their own stand on a stack, not in calls
     * of Java. Each begun call has a scope: three slots, one for each ARGUMENT; scope 0 holds the told ones.
     */
    private static final class Machine {
        private static final int OPEN = -1;
        private static final int UNWORKED = -1;
        /** What a call holds while it waits for none of its texts yet: the one ahead of its first. */
        private static final int AHEAD_OF_FIRST = -1;
        private static final int SCOPES = MOST_STEPS + 1;
        private static final int SLOTS = SCOPES * MOST_ARGUMENTS;
        /** A turn begins a text or hands back what came of one: a text waits for three at most, a call once more. */
        private static final int MOST_TURNS = 10 * MOST_STEPS;

        private final Bodies bodies;
        private final Tables tables;

        /** What came of a slot's text, or UNWORKED; then its PLACE, and the scope in which it is written. */
        private final int[] slotHeld = new int[SLOTS];
        private final int[] slotPlace = new int[SLOTS];
        private final int[] slotScope = new int[SLOTS];
        private int scopes;

        /** A waiting text, its scope (of a call: the scope it makes) and what it holds meanwhile. */
        private final int[] waitPlace = new int[MOST_STEPS];
        private final int[] waitScope = new int[MOST_STEPS];
        private final int[] waitHeld = new int[MOST_STEPS];
        private int waiting;

        private int way;
        /** For each FUNCTION the ARGUMENTS that this RUN works ahead, as bits. */
        private final int[] ahead = new int[FUNCTIONS];
        private int end;
        private int taken;

        /** The text at hand; or, once it is given, what came of it. */
        private int place;
        private int scope;
        private boolean given;
        private int value;

        Machine(Bodies bodies, Tables tables) {
            this.bodies = bodies;
            this.tables = tables;
        }

        int end() {
            return end;
        }

        int taken() {
            return taken;
        }

        void play(int function, int arguments, int chosenWay) {
            way = chosenWay;
            end = OPEN;
            taken = 0;
            waiting = 0;
            scopes = 1;
            chooseAhead();
            takeTold(function, arguments);
            goTo(bodies.root(function), 0);
            for (int turn = 0; end == OPEN && turn < MOST_TURNS; turn++) {
                if (given) {
                    giveBack();
                } else {
                    begin();
                }
            }
            if (end == OPEN) {
                end = SPENT;
            }
        }

        private void chooseAhead() {
            for (int function = 0; function < FUNCTIONS; function++) {
                if (way == AHEAD) {
                    ahead[function] = allArguments(function);
                } else {
                    ahead[function] = way == SAFE ? tables.neededOf(function) : 0;
                }
            }
        }

        private void takeTold(int function, int arguments) {
            int rest = arguments;
            for (int argument = argumentsOf(function) - 1; argument >= 0; argument--) {
                setSlot(argument, rest % 9);
                if (heldIn(argument) == NOTHING && isAhead(function, argument)) {
                    end = NOTHING;
                }
                rest = rest / 9;
            }
        }

        private boolean isAhead(int function, int argument) {
            return isFunction(function) && (ahead[function] >> argument & 1) == 1;
        }

        private void begin() {
            if (taken >= MOST_STEPS) {
                end = SPENT;
                return;
            }
            taken++;
            switch (bodies.kindAt(place)) {
                case Signs.NUMBER:
                    give(bodies.worthAt(place));
                    break;
                case Signs.ARGUMENT:
                    beginArgument(slotOf(scope, bodies.worthAt(place)));
                    break;
                case Signs.ACT:
                case Signs.CHOICE:
                    await(place, scope, UNWORKED);
                    goTo(place + 1, scope);
                    break;
                case Signs.CALL:
                    beginCall(bodies.worthAt(place));
                    break;
                default:
                    end = NOTHING;
                    break;
            }
        }

        private void beginArgument(int slot) {
            int held = heldIn(slot);
            if (held == NOTHING) {
                end = NOTHING;
            } else if (held != UNWORKED) {
                give(held);
            } else {
                if (way != BY_NAME) {
                    await(place, scope, UNWORKED);
                }
                goToSlot(slot);
            }
        }

        private void beginCall(int callee) {
            if (scopes >= SCOPES) {
                end = SPENT;
                return;
            }
            int made = scopes;
            scopes++;
            for (int text = 0; text < argumentsOf(callee); text++) {
                hang(slotOf(made, text), bodies.textPlace(place, text), scope);
            }
            await(place, made, AHEAD_OF_FIRST);
            // The call goes on as it does behind each of its texts, with the next one.
            give(NOTHING);
        }

        /** Works the next text that must be ahead, from one on; if there is none, the BODY. */
        private void goOnCalling(int callPlace, int made, int first) {
            int callee = bodies.worthAt(callPlace);
            for (int text = first; text < argumentsOf(callee); text++) {
                if (isAhead(callee, text)) {
                    await(callPlace, made, text);
                    goToSlot(slotOf(made, text));
                    return;
                }
            }
            goTo(bodies.root(callee), made);
        }

        /** Hands what came of the text at hand to the one that waits for it. */
        private void giveBack() {
            if (waiting <= 0 || waiting > MOST_STEPS) {
                end = value;
                return;
            }
            waiting--;
            int waiter = waitPlace[waiting];
            int waiterScope = waitScope[waiting];
            int held = waitHeld[waiting];
            switch (bodies.kindAt(waiter)) {
                case Signs.ACT:
                    goOnActing(waiter, waiterScope, held);
                    break;
                case Signs.CHOICE:
                    goTo(bodies.textPlace(waiter, value == 0 ? 1 : 2), waiterScope);
                    break;
                case Signs.ARGUMENT:
                    setSlot(slotOf(waiterScope, bodies.worthAt(waiter)), value);
                    break;
                case Signs.CALL:
                    if (held != AHEAD_OF_FIRST) {
                        setSlot(slotOf(waiterScope, held), value);
                    }
                    goOnCalling(waiter, waiterScope, held + 1);
                    break;
                default:
                    end = NOTHING;
                    break;
            }
        }

        private void goOnActing(int actPlace, int actScope, int first) {
            if (first == UNWORKED) {
                await(actPlace, actScope, value);
                goTo(bodies.textPlace(actPlace, 1), actScope);
            } else {
                give(acted(bodies.worthAt(actPlace), first, value));
            }
        }

        private static int acted(int act, int first, int second) {
            switch (act) {
                case '+':
                    return first + second & 7;
                case '-':
                    return first - second & 7;
                case '*':
                    return first * second & 7;
                default:
                    return Math.min(first, second);
            }
        }

        private void give(int number) {
            given = true;
            value = number;
        }

        private void goTo(int nextPlace, int nextScope) {
            given = false;
            place = nextPlace;
            scope = nextScope;
        }

        private void await(int waiter, int waiterScope, int held) {
            if (waiting < 0 || waiting >= MOST_STEPS) {
                end = SPENT;
                return;
            }
            waitPlace[waiting] = waiter;
            waitScope[waiting] = waiterScope;
            waitHeld[waiting] = held;
            waiting++;
        }

        private static int slotOf(int scope, int argument) {
            return scope * MOST_ARGUMENTS + argument;
        }

        private static boolean isSlot(int slot) {
            return slot >= 0 && slot < SLOTS;
        }

        private int heldIn(int slot) {
            return isSlot(slot) ? slotHeld[slot] : NOTHING;
        }

        private void setSlot(int slot, int held) {
            if (isSlot(slot)) {
                slotHeld[slot] = held;
            }
        }

        private void hang(int slot, int textPlace, int textScope) {
            if (isSlot(slot)) {
                slotHeld[slot] = UNWORKED;
                slotPlace[slot] = textPlace;
                slotScope[slot] = textScope;
            }
        }

        private void goToSlot(int slot) {
            if (isSlot(slot)) {
                goTo(slotPlace[slot], slotScope[slot]);
            }
        }
    }

    /** How RUNS ended; each is worked once, as it is first asked for, until a BODY changes. */
    private static final class Outcomes {
        private static final int NOT_YET = -1;
        /** Ends and steps share a number: an end is below this. */
        private static final int ENDS = SPENT + 1;
        /** Where each FUNCTION's outcomes begin: four WAYS of each one's rows. */
        private static final int[] FIRST = {0, 36, 360, 3276};
        private static final int ALL = 3600;

        private final Machine machine;
        private final int[] kept = new int[ALL];

        Outcomes(Machine machine) {
            this.machine = machine;
            Arrays.fill(kept, NOT_YET);
        }

        void forget() {
            Arrays.fill(kept, NOT_YET);
        }

        static int endIn(int outcome) {
            return outcome % ENDS;
        }

        static int stepsIn(int outcome) {
            return outcome / ENDS;
        }

        int of(int function, int arguments, int way) {
            if (!isFunction(function)) {
                return SPENT;
            }
            int index = FIRST[function] + way * TOLD_ROWS[function] + arguments;
            if (index < 0 || index >= ALL) {
                return SPENT;
            }
            if (kept[index] == NOT_YET) {
                machine.play(function, arguments, way);
                kept[index] = machine.taken() * ENDS + machine.end();
            }
            return kept[index];
        }
    }
}
