import java.util.Arrays;

/** Gives the values of a small program to few registers; DOC.md says what each call promises. */
public final class RegisterDesk {
    public static final int NONE = -6, UNKNOWN = -1, OUTSIDE = -2, STATE = -3, FULL = -4, NO = -5;

    private static final int REGISTERS = 4;
    private static final long REGISTER_BITS = 15L;
    private static final int FIRST_NEW = 16;
    private static final int MOST_NAMES = 64;
    private static final int MOST_SIGNS = 60;
    private static final int MOST_INSTRUCTIONS = 90;
    private static final int MOST_ROUNDS = 6;
    private static final int FIGURES = 10;
    private static final int IMAGES = 2;
    private static final int RUN_STEPS = 500;
    private static final int CODE_STEPS = 2000;

    private static final int SET = 0, MOVE = 1, SUM = 2, LESS = 3, OUT = 4;
    private static final int LABEL = 5, JUMP = 6, LOAD = 7, STORE = 8;
    private static final int KINDS = 9;
    private static final int PARTS = 3;

    // What stands behind each KIND: a NAME that is written, one that is read, a number, or nothing.
    private static final char WRITTEN = 'w', READ = 'r', NUMBER = '0', NOTHING = '-';
    private static final String SHAPES = "w0-wr-wrrwr-r--0--r0-w0-r0-";
    private static final String OPENINGS = "#=+-.@^";

    private final Pad pad = new Pad();
    private final Listing program = new Listing();
    private final Needs needs = new Needs();
    private final Allotment allotment = new Allotment();
    private final Runner programRunner = new Runner();
    private final Runner codeRunner = new Runner();
    private final Image[] images = new Image[IMAGES];
    private int registersGiven = 3;
    private int wayToWeigh = 0;
    // What was worked out is kept until something that it rests on changes.
    private boolean needsFound = false;
    private boolean allotted = false;
    private boolean programRan = false;
    private boolean codeRan = false;

    public RegisterDesk() {
        for (int i = 0; i < IMAGES; i++) {
            images[i] = new Image();
        }
    }

    public int colours(int k) {
        if (k < 2 || k > REGISTERS) {
            return OUTSIDE;
        }
        int before = registersGiven;
        registersGiven = k;
        forgetAllotment();
        return before;
    }

    public int way(int w) {
        if (w < 0 || w > 2) {
            return OUTSIDE;
        }
        int before = wayToWeigh;
        wayToWeigh = w;
        forgetAllotment();
        return before;
    }

    public int say(int sign) {
        if (sign < 33 || sign > 126) {
            return OUTSIDE;
        }
        if (!pad.add(sign)) {
            return FULL;
        }
        return pad.count;
    }

    public int wipe() {
        int before = pad.count;
        pad.count = 0;
        return before;
    }

    public int fault() {
        return pad.faultPlace();
    }

    public int load() {
        if (pad.faultPlace() != NONE) {
            return NO;
        }
        pad.tellTo(program);
        pad.count = 0;
        forgetProgram();
        return program.count;
    }

    public int instruction(int i, int what) {
        if (i < 0 || i >= program.count) {
            return UNKNOWN;
        }
        if (what < 0 || what > PARTS) {
            return OUTSIDE;
        }
        return program.partAt(i, what);
    }

    public int live(int i) {
        if (i < 0 || i >= program.count) {
            return UNKNOWN;
        }
        findNeeds();
        return (int) needs.behind[i];
    }

    public int edges(int name) {
        if (name < 0 || name >= FIRST_NEW) {
            return UNKNOWN;
        }
        findNeeds();
        return (int) needs.beside[name];
    }

    public int weight(int value, int what) {
        if (!isToldValue(value)) {
            return UNKNOWN;
        }
        if (what < 0 || what > 1) {
            return OUTSIDE;
        }
        findNeeds();
        if (what == 0) {
            return needs.costs[value];
        }
        return weightBits(wayToWeigh, needs.costs[value], Long.bitCount(needs.beside[value]));
    }

    public int step(int i) {
        findAllotment();
        if (i == -1) {
            return allotment.firstStepCount;
        }
        if (i < 0 || i >= allotment.firstStepCount) {
            return NONE;
        }
        return allotment.firstSteps[i];
    }

    public int spilled(int i) {
        findAllotment();
        if (i == -1) {
            return Long.bitCount(allotment.firstSpilled);
        }
        int before = 0;
        for (int node = 0; node < MOST_NAMES; node++) {
            if (has(allotment.firstSpilled, node)) {
                if (before == i) {
                    return node;
                }
                before++;
            }
        }
        return NONE;
    }

    public int rounds(int what) {
        if (what < 0 || what > 4) {
            return OUTSIDE;
        }
        findAllotment();
        if (!allotment.known) {
            return STATE;
        }
        switch (what) {
            case 0: return allotment.roundCount;
            case 1: return allotment.slots;
            case 2: return allotment.nextName - FIRST_NEW;
            case 3: return allotment.finished.count;
            default: return allotment.leftOut;
        }
    }

    public int colour(int value) {
        if (!isToldValue(value)) {
            return UNKNOWN;
        }
        findAllotment();
        if (!allotment.known) {
            return STATE;
        }
        if (!has(program.names, value)) {
            return NONE;
        }
        return allotment.placeOf(value);
    }

    public int code(int i, int what) {
        findAllotment();
        if (!allotment.known) {
            return STATE;
        }
        if (i < 0 || i >= allotment.finished.count) {
            return UNKNOWN;
        }
        if (what < 0 || what > PARTS) {
            return OUTSIDE;
        }
        return allotment.finished.partAt(i, what);
    }

    public int run(int what) {
        if (what < 0 || what > 3) {
            return OUTSIDE;
        }
        runProgram();
        return programRunner.answer(what);
    }

    public int out(int i) {
        runProgram();
        if (i < 0 || i >= programRunner.toldCount || i >= RUN_STEPS) {
            return NONE;
        }
        return programRunner.told[i];
    }

    public int spent(int what) {
        if (what < 0 || what > 5) {
            return OUTSIDE;
        }
        findAllotment();
        if (!allotment.known) {
            return STATE;
        }
        if (!codeRan) {
            codeRunner.follow(allotment.finished, CODE_STEPS);
            codeRan = true;
        }
        return codeRunner.answer(what);
    }

    public int image(int n) {
        if (n < 0 || n >= IMAGES) {
            return OUTSIDE;
        }
        Image image = images[n];
        image.kept = true;
        image.program.copyFrom(program);
        image.registersGiven = registersGiven;
        image.wayToWeigh = wayToWeigh;
        return 1;
    }

    public int restore(int n) {
        if (n < 0 || n >= IMAGES) {
            return OUTSIDE;
        }
        Image image = images[n];
        if (!image.kept) {
            return STATE;
        }
        program.copyFrom(image.program);
        registersGiven = image.registersGiven;
        wayToWeigh = image.wayToWeigh;
        forgetProgram();
        return 1;
    }

    public int told(int what) {
        switch (what) {
            case 0: return pad.count;
            case 1: return program.count;
            case 2: return registersGiven;
            case 3: return wayToWeigh;
            case 4: return (int) program.names;
            case 5: return program.moves;
            default: return OUTSIDE;
        }
    }

    private void forgetProgram() {
        needsFound = false;
        programRan = false;
        forgetAllotment();
    }

    private void forgetAllotment() {
        allotted = false;
        codeRan = false;
    }

    private void findNeeds() {
        if (!needsFound) {
            needs.find(program);
            needsFound = true;
        }
    }

    private void findAllotment() {
        if (!allotted) {
            allotment.allot(program, registersGiven, wayToWeigh);
            allotted = true;
        }
    }

    private void runProgram() {
        if (!programRan) {
            programRunner.follow(program, RUN_STEPS);
            programRan = true;
        }
    }

    private static boolean isToldValue(int name) {
        return name >= REGISTERS && name < FIRST_NEW;
    }

    private static boolean has(long set, int name) {
        return (set >>> name & 1L) != 0L;
    }

    private static char shapeOf(int kind, int what) {
        if (kind < 0 || kind >= KINDS || what < 1 || what > PARTS) {
            return NOTHING;
        }
        return SHAPES.charAt(PARTS * kind + what - 1);
    }

    private static int weightBits(int way, int cost, int neighbours) {
        int by = Math.max(1, neighbours);
        switch (way) {
            case 0: return singleBits(cost, by);
            case 1: return singleBits(cost, 1);
            default: return singleBits(1, by);
        }
    }

    /**
     * The bits of the single number nearest to a quotient, of two as near the even one. The library
     * gives no bits of a float, so they are worked out; bits of numbers that are not below 0 stand
     * in the order of the numbers, so they can be compared in their stead. A cost has far fewer than
     * 24 bits, so the quotient is only ever widened to them.
     */
    private static int singleBits(int cost, int by) {
        if (cost <= 0 || by <= 0) {
            return 0;
        }
        long above = cost;
        long below = by;
        int exponent = 150;
        for (int i = 0; i < 64 && above < below << 23; i++) {
            above <<= 1;
            exponent--;
        }
        long whole = above / below;
        long twiceRest = 2 * (above - whole * below);
        if (twiceRest > below || (twiceRest == below && (whole & 1L) != 0L)) {
            whole++;
        }
        // The first of the 24 bits is not written; added, it lifts the exponent by one.
        return (int) (((long) (exponent - 1) << 23) + whole);
    }

    /** The signs that were said, and what they tell. */
    private static final class Pad {
        private final int[] signs = new int[MOST_SIGNS];
        private int count = 0;

        boolean add(int sign) {
            if (count < 0 || count >= MOST_SIGNS) {
                return false;
            }
            signs[count] = sign;
            count++;
            return true;
        }

        int faultPlace() {
            int kind = NONE;
            int what = 0;
            for (int at = 0; at < count && at < MOST_SIGNS; at++) {
                if (what == 0) {
                    kind = kindOf(signs[at]);
                    if (kind < 0) {
                        return at;
                    }
                } else if (meaningOf(signs[at], shapeOf(kind, what)) < 0) {
                    return at;
                }
                what++;
                if (shapeOf(kind, what) == NOTHING) {
                    what = 0;
                }
            }
            return what == 0 ? NONE : count;
        }

        void tellTo(Listing listing) {
            listing.clear();
            int at = 0;
            for (int i = 0; i < MOST_SIGNS && at < count && at < MOST_SIGNS; i++) {
                int kind = kindOf(signs[at]);
                listing.add(kind, partOf(kind, 1, at), partOf(kind, 2, at), partOf(kind, 3, at));
                at++;
                for (int what = 1; what <= PARTS; what++) {
                    if (shapeOf(kind, what) != NOTHING) {
                        at++;
                    }
                }
            }
        }

        private int partOf(int kind, int what, int at) {
            int place = at + what;
            if (place < 0 || place >= count || place >= MOST_SIGNS) {
                return NONE;
            }
            return meaningOf(signs[place], shapeOf(kind, what));
        }

        private static int kindOf(int sign) {
            return OPENINGS.indexOf((char) sign);
        }

        private static int meaningOf(int sign, char shape) {
            if (shape == NUMBER) {
                return sign >= '0' && sign <= '9' ? sign - '0' : NONE;
            }
            if (shape == NOTHING) {
                return NONE;
            }
            if (sign >= 'A' && sign <= 'D') {
                return sign - 'A';
            }
            return sign >= 'a' && sign <= 'l' ? sign - 'a' + REGISTERS : NONE;
        }
    }

    /** INSTRUCTIONS in their order, with what the rest asks of them again and again. */
    private static final class Listing {
        private final int[] parts = new int[(PARTS + 1) * MOST_INSTRUCTIONS];
        private final long[] reads = new long[MOST_INSTRUCTIONS];
        private final int[] writes = new int[MOST_INSTRUCTIONS];
        private final int[] labels = new int[FIGURES];
        private int count = 0;
        private int moves = 0;
        private long names = 0L;
        // No NAME in it is as high: searches need not go further.
        private int top = REGISTERS;

        void clear() {
            count = 0;
            moves = 0;
            names = 0L;
            top = REGISTERS;
            for (int figure = 0; figure < FIGURES; figure++) {
                labels[figure] = NONE;
            }
        }

        /** Answers false, and adds nothing, if there is no room. */
        boolean add(int kind, int first, int second, int third) {
            if (count < 0 || count >= MOST_INSTRUCTIONS) {
                return false;
            }
            int row = (PARTS + 1) * count;
            parts[row] = kind;
            parts[row + 1] = first;
            parts[row + 2] = second;
            parts[row + 3] = third;
            reads[count] = 0L;
            writes[count] = NONE;
            for (int what = 1; what <= PARTS; what++) {
                noteName(parts[row + what], shapeOf(kind, what));
            }
            if (kind == MOVE) {
                moves++;
            }
            if (kind == LABEL && first >= 0 && first < FIGURES && labels[first] < 0) {
                labels[first] = count;
            }
            count++;
            return true;
        }

        private void noteName(int name, char shape) {
            if (name < 0 || name >= MOST_NAMES || count < 0 || count >= MOST_INSTRUCTIONS) {
                return;
            }
            if (shape != READ && shape != WRITTEN) {
                return;
            }
            if (shape == READ) {
                reads[count] |= 1L << name;
            } else {
                writes[count] = name;
            }
            names |= 1L << name;
            top = Math.max(top, name + 1);
        }

        int partAt(int i, int what) {
            if (i < 0 || i >= count || i >= MOST_INSTRUCTIONS || what < 0 || what > PARTS) {
                return NONE;
            }
            return parts[(PARTS + 1) * i + what];
        }

        /** The NAME that stands there; NONE, if a number does, or nothing. */
        int nameAt(int i, int what) {
            char shape = shapeOf(partAt(i, 0), what);
            if (shape != READ && shape != WRITTEN) {
                return NONE;
            }
            int name = partAt(i, what);
            return name >= 0 && name < MOST_NAMES ? name : NONE;
        }

        /** Where a JUMP goes; NONE, if it goes nowhere, or if it is no JUMP. */
        int targetOf(int i) {
            if (partAt(i, 0) != JUMP) {
                return NONE;
            }
            int figure = partAt(i, 2);
            return figure >= 0 && figure < FIGURES ? labels[figure] : NONE;
        }

        void copyFrom(Listing other) {
            System.arraycopy(other.parts, 0, parts, 0, parts.length);
            System.arraycopy(other.reads, 0, reads, 0, reads.length);
            System.arraycopy(other.writes, 0, writes, 0, writes.length);
            System.arraycopy(other.labels, 0, labels, 0, labels.length);
            count = other.count;
            moves = other.moves;
            names = other.names;
            top = other.top;
        }
    }

    /** Who is needed where, who is beside whom, and what each costs. */
    private static final class Needs {
        // A round that changes nothing is the last; each other one adds one of 90 times 64 bits.
        private static final int MOST_PASSES = 10000;
        private static final int NEW_COST = 10000;
        private static final int LOOP_COST = 10;

        private final long[] ahead = new long[MOST_INSTRUCTIONS];
        private final long[] behind = new long[MOST_INSTRUCTIONS];
        private final int[] rates = new int[MOST_INSTRUCTIONS];
        private final long[] beside = new long[MOST_NAMES];
        private final int[] costs = new int[MOST_NAMES];

        void find(Listing listing) {
            findLive(listing);
            findEdges(listing);
            findRates(listing);
            findCosts(listing);
        }

        private void findLive(Listing listing) {
            Arrays.fill(ahead, 0L);
            Arrays.fill(behind, 0L);
            boolean changed = true;
            for (int pass = 0; pass < MOST_PASSES && changed; pass++) {
                changed = passFromBehind(listing);
            }
        }

        private boolean passFromBehind(Listing listing) {
            boolean changed = false;
            long next = 0L;
            for (int i = Math.min(listing.count, MOST_INSTRUCTIONS) - 1; i >= 0; i--) {
                long after = next;
                int target = listing.targetOf(i);
                if (target >= 0 && target < MOST_INSTRUCTIONS) {
                    after |= ahead[target];
                }
                long before = after;
                if (listing.writes[i] >= 0) {
                    before &= ~(1L << listing.writes[i]);
                }
                before |= listing.reads[i];
                changed = changed || before != ahead[i] || after != behind[i];
                behind[i] = after;
                ahead[i] = before;
                next = before;
            }
            return changed;
        }

        private void findEdges(Listing listing) {
            Arrays.fill(beside, 0L);
            for (int register = 0; register < REGISTERS; register++) {
                beside[register] = REGISTER_BITS & ~(1L << register);
            }
            for (int i = 0; i < listing.count && i < MOST_INSTRUCTIONS; i++) {
                int written = listing.writes[i];
                if (written >= 0 && written < MOST_NAMES) {
                    long others = behind[i] & ~(1L << written);
                    if (listing.partAt(i, 0) == MOVE) {
                        others &= ~listing.reads[i];
                    }
                    putBeside(written, others, Math.min(listing.top, MOST_NAMES));
                }
            }
        }

        private void putBeside(int name, long others, int top) {
            if (name < 0 || name >= MOST_NAMES || top > MOST_NAMES) {
                return;
            }
            beside[name] |= others;
            for (int other = 0; other < top; other++) {
                if (has(others, other)) {
                    beside[other] |= 1L << name;
                }
            }
        }

        private void findRates(Listing listing) {
            Arrays.fill(rates, 1);
            for (int i = 0; i < listing.count && i < MOST_INSTRUCTIONS; i++) {
                int target = listing.targetOf(i);
                for (int inside = target; inside >= 0 && inside <= i; inside++) {
                    rates[inside] = LOOP_COST;
                }
            }
        }

        private void findCosts(Listing listing) {
            Arrays.fill(costs, 0);
            for (int i = 0; i < listing.count && i < MOST_INSTRUCTIONS; i++) {
                for (int what = 1; what <= PARTS; what++) {
                    int name = listing.nameAt(i, what);
                    if (name >= FIRST_NEW && name < MOST_NAMES) {
                        costs[name] = NEW_COST;
                    } else if (name >= 0 && name < FIRST_NEW) {
                        costs[name] += rates[i];
                    }
                }
            }
        }
    }

    /** One ROUND: STEPS until no VALUE is left, then all come back. */
    private static final class Round {
        private static final int TAKEN = 1, SHUT = 2, MADE_ONE = 3, GIVEN_UP = 4, IN_HOPE = 5;
        // Each STEP takes a VALUE away or shuts a MOVE.
        private static final int MOST_STEPS = MOST_NAMES + MOST_INSTRUCTIONS;

        private final long[] beside = new long[MOST_NAMES];
        private final int[] degrees = new int[MOST_NAMES];
        private final int[] costs = new int[MOST_NAMES];
        private final int[] oneWith = new int[MOST_NAMES];
        private final int[] registers = new int[MOST_NAMES];
        private final int[] firsts = new int[MOST_INSTRUCTIONS];
        private final int[] seconds = new int[MOST_INSTRUCTIONS];
        private final boolean[] open = new boolean[MOST_INSTRUCTIONS];
        private final int[] taken = new int[MOST_NAMES];
        private final int[] steps = new int[MOST_STEPS];
        private int top = REGISTERS;
        private int moves = 0;
        private int takenCount = 0;
        private int stepCount = 0;
        private long left = 0L;
        private long low = 0L;
        private long moved = 0L;
        private long spills = 0L;
        private int k = 0;
        private int weighing = 0;

        void play(Listing listing, Needs needs, int registersGiven, int wayToWeigh) {
            k = registersGiven;
            weighing = wayToWeigh;
            begin(listing, needs);
            for (int i = 0; i < MOST_STEPS && lookAround(); i++) {
                if (!takeLow() && !settleMove() && !giveUpMoves()) {
                    takeInHope();
                }
            }
            bringBack();
        }

        private void begin(Listing listing, Needs needs) {
            takenCount = 0;
            stepCount = 0;
            spills = 0L;
            left = listing.names | REGISTER_BITS;
            top = Math.min(listing.top, MOST_NAMES);
            for (int name = 0; name < MOST_NAMES; name++) {
                beside[name] = needs.beside[name];
                costs[name] = needs.costs[name];
                oneWith[name] = name;
                registers[name] = name < REGISTERS ? name : NONE;
            }
            moves = 0;
            for (int i = 0; i < listing.count && i < MOST_INSTRUCTIONS; i++) {
                int first = listing.nameAt(i, 1);
                int second = listing.nameAt(i, 2);
                if (listing.partAt(i, 0) == MOVE && first >= 0 && second >= 0) {
                    firsts[moves] = first;
                    seconds[moves] = second;
                    open[moves] = true;
                    moves++;
                }
            }
        }

        /** Sees who is LOW and who is MOVED; answers whether a VALUE is left. */
        private boolean lookAround() {
            low = 0L;
            for (int name = REGISTERS; name < top; name++) {
                degrees[name] = Long.bitCount(beside[name]);
                if (has(left, name) && degrees[name] < k) {
                    low |= 1L << name;
                }
            }
            moved = 0L;
            for (int move = 0; move < moves; move++) {
                if (open[move]) {
                    moved |= 1L << nodeOf(firsts[move]) | 1L << nodeOf(seconds[move]);
                }
            }
            return (left & ~REGISTER_BITS) != 0L;
        }

        private boolean takeLow() {
            int value = leastOf(low & ~moved);
            if (value < 0) {
                return false;
            }
            takeAway(value);
            note(TAKEN, value);
            return true;
        }

        private boolean settleMove() {
            for (int move = 0; move < moves; move++) {
                if (open[move]) {
                    int one = nodeOf(firsts[move]);
                    int other = nodeOf(seconds[move]);
                    // Any two REGISTERS are NEIGHBOURS, so they need no test of their own.
                    if (one == other || has(beside[one], other)) {
                        open[move] = false;
                        note(SHUT, move);
                        return true;
                    }
                    // A REGISTER's number is less than that of any VALUE: the less is kept.
                    int kept = Math.min(one, other);
                    int gone = Math.max(one, other);
                    if (isSafe(kept, gone)) {
                        open[move] = false;
                        makeOne(kept, gone);
                        note(MADE_ONE, move);
                        return true;
                    }
                }
            }
            return false;
        }

        private boolean giveUpMoves() {
            int value = leastOf(low);
            if (value < 0) {
                return false;
            }
            shutMovesOf(value);
            note(GIVEN_UP, value);
            return true;
        }

        private void takeInHope() {
            int lightest = NONE;
            int leastWeight = 0;
            for (int value = REGISTERS; value < top; value++) {
                if (has(left, value)) {
                    int weight = weightBits(weighing, costs[value], degrees[value]);
                    if (lightest < 0 || weight < leastWeight) {
                        lightest = value;
                        leastWeight = weight;
                    }
                }
            }
            if (lightest >= 0) {
                shutMovesOf(lightest);
                takeAway(lightest);
                note(IN_HOPE, lightest);
            }
        }

        private boolean isSafe(int kept, int gone) {
            if (kept < 0 || gone < 0 || kept >= MOST_NAMES || gone >= MOST_NAMES) {
                return false;
            }
            if (kept < REGISTERS) {
                return (beside[gone] & ~low & ~REGISTER_BITS & ~beside[kept]) == 0L;
            }
            long either = beside[kept] | beside[gone];
            long both = beside[kept] & beside[gone];
            int crowded = 0;
            for (int name = 0; name < top; name++) {
                if (has(either, name)) {
                    int fewer = has(both, name) ? 1 : 0;
                    if (name < REGISTERS || degrees[name] - fewer >= k) {
                        crowded++;
                    }
                }
            }
            return crowded < k;
        }

        private void makeOne(int kept, int gone) {
            if (kept < 0 || gone < 0 || kept >= MOST_NAMES || gone >= MOST_NAMES) {
                return;
            }
            for (int name = 0; name < top; name++) {
                if (has(beside[gone], name)) {
                    beside[name] = beside[name] & ~(1L << gone) | 1L << kept;
                }
            }
            beside[kept] |= beside[gone];
            costs[kept] += costs[gone];
            oneWith[gone] = kept;
            left &= ~(1L << gone);
        }

        /** The own row of the one that goes stays, for it tells whom it will meet when it is back. */
        private void takeAway(int value) {
            if (value < 0 || value >= MOST_NAMES || takenCount < 0 || takenCount >= MOST_NAMES) {
                return;
            }
            for (int name = 0; name < top; name++) {
                if (has(beside[value], name)) {
                    beside[name] &= ~(1L << value);
                }
            }
            left &= ~(1L << value);
            taken[takenCount] = value;
            takenCount++;
        }

        private void shutMovesOf(int node) {
            for (int move = 0; move < moves; move++) {
                if (nodeOf(firsts[move]) == node || nodeOf(seconds[move]) == node) {
                    open[move] = false;
                }
            }
        }

        private void bringBack() {
            for (int i = takenCount - 1; i >= 0; i--) {
                int value = taken[i];
                int used = registersBeside(value);
                int free = 0;
                while (free < k && (used >>> free & 1) != 0) {
                    free++;
                }
                if (free < k) {
                    registers[value] = free;
                } else {
                    spills |= 1L << value;
                }
            }
        }

        /** The REGISTERS, as bits, of all that a VALUE was beside when it was TAKEN. */
        private int registersBeside(int value) {
            int used = 0;
            for (int name = 0; name < top; name++) {
                if (has(beside[value], name)) {
                    int register = registers[nodeOf(name)];
                    if (register >= 0) {
                        used |= 1 << register;
                    }
                }
            }
            return used;
        }

        private void note(int kind, int number) {
            if (stepCount >= 0 && stepCount < MOST_STEPS) {
                steps[stepCount] = 100 * kind + number;
                stepCount++;
            }
        }

        /** The NODE that a NAME is in now: a number from 0 to 63, whatever is asked. */
        int nodeOf(int name) {
            int node = Math.max(0, Math.min(name, MOST_NAMES - 1));
            for (int hop = 0; hop < MOST_NAMES && oneWith[node] != node; hop++) {
                node = oneWith[node];
            }
            return node;
        }

        private int leastOf(long set) {
            for (int name = 0; name < top; name++) {
                if (has(set, name)) {
                    return name;
                }
            }
            return NONE;
        }
    }

    /** All ROUNDS, and the CODE behind them. */
    private static final class Allotment {
        private final Needs needs = new Needs();
        private final Round round = new Round();
        private final Listing finished = new Listing();
        private final int[] slotOf = new int[MOST_NAMES];
        private final int[] firstSteps = new int[Round.MOST_STEPS];
        private final int[] changed = new int[PARTS + 1];
        private Listing now = new Listing();
        private Listing next = new Listing();
        private int firstStepCount = 0;
        private long firstSpilled = 0L;
        private int roundCount = 0;
        private int slots = 0;
        private int nextName = FIRST_NEW;
        private int leftOut = 0;
        private boolean known = false;

        void allot(Listing program, int registersGiven, int wayToWeigh) {
            begin(program);
            boolean more = true;
            for (int i = 0; i < MOST_ROUNDS && more; i++) {
                needs.find(now);
                round.play(now, needs, registersGiven, wayToWeigh);
                roundCount++;
                if (i == 0) {
                    keepFirstRound();
                }
                known = round.spills == 0L;
                more = !known && spill();
            }
            if (known) {
                finish();
            }
        }

        private void begin(Listing program) {
            now.copyFrom(program);
            Arrays.fill(slotOf, NONE);
            roundCount = 0;
            slots = 0;
            nextName = FIRST_NEW;
            leftOut = 0;
            known = false;
        }

        private void keepFirstRound() {
            System.arraycopy(round.steps, 0, firstSteps, 0, firstSteps.length);
            firstStepCount = round.stepCount;
            firstSpilled = round.spills;
        }

        /** Answers false, if there would be too many INSTRUCTIONS or NAMES. */
        private boolean spill() {
            giveSlots();
            next.clear();
            for (int i = 0; i < now.count; i++) {
                if (!rewrite(i)) {
                    return false;
                }
            }
            Listing old = now;
            now = next;
            next = old;
            return true;
        }

        private void giveSlots() {
            for (int node = 0; node < MOST_NAMES; node++) {
                if (has(round.spills, node)) {
                    for (int name = 0; name < MOST_NAMES; name++) {
                        if (has(now.names, name) && round.nodeOf(name) == node) {
                            slotOf[name] = slots;
                        }
                    }
                    slots++;
                }
            }
        }

        private boolean rewrite(int i) {
            int kind = now.partAt(i, 0);
            for (int what = 1; what <= PARTS; what++) {
                changed[what] = now.partAt(i, what);
                int slot = slotOfName(now.nameAt(i, what));
                if (shapeOf(kind, what) == READ && slot >= 0) {
                    changed[what] = makeName();
                    if (changed[what] < 0 || !next.add(LOAD, changed[what], slot, NONE)) {
                        return false;
                    }
                }
            }
            int slot = slotOfName(now.nameAt(i, 1));
            boolean stored = shapeOf(kind, 1) == WRITTEN && slot >= 0;
            if (stored) {
                changed[1] = makeName();
                if (changed[1] < 0) {
                    return false;
                }
            }
            return next.add(kind, changed[1], changed[2], changed[3])
                && (!stored || next.add(STORE, changed[1], slot, NONE));
        }

        private int slotOfName(int name) {
            return name >= 0 && name < MOST_NAMES ? slotOf[name] : NONE;
        }

        private int makeName() {
            if (nextName >= MOST_NAMES) {
                return NONE;
            }
            nextName++;
            return nextName - 1;
        }

        private void finish() {
            finished.clear();
            for (int i = 0; i < now.count; i++) {
                int kind = now.partAt(i, 0);
                for (int what = 1; what <= PARTS; what++) {
                    int name = now.nameAt(i, what);
                    changed[what] = name >= 0 ? registerOf(name) : now.partAt(i, what);
                }
                if (kind == MOVE && changed[1] == changed[2]) {
                    leftOut++;
                } else {
                    finished.add(kind, changed[1], changed[2], changed[3]);
                }
            }
        }

        private int registerOf(int name) {
            return round.registers[round.nodeOf(name)];
        }

        int placeOf(int value) {
            int slot = slotOfName(value);
            return slot >= 0 ? 10 + slot : registerOf(value);
        }
    }

    /** A RUN, of a PROGRAM or of CODE. */
    private static final class Runner {
        private static final int MODULUS = 1000;
        private static final int DIGEST_MODULUS = 1000003;

        private final int[] values = new int[MOST_NAMES];
        private final int[] slots = new int[MOST_NAMES];
        private final int[] told = new int[RUN_STEPS];
        private int toldCount = 0;
        private int digest = 0;
        private int stepCount = 0;
        private int loads = 0;
        private int stores = 0;
        private boolean ended = false;

        void follow(Listing listing, int mostSteps) {
            Arrays.fill(values, 0);
            Arrays.fill(slots, 0);
            toldCount = 0;
            digest = 0;
            loads = 0;
            stores = 0;
            int at = 0;
            stepCount = 0;
            while (stepCount < mostSteps && at < listing.count) {
                stepCount++;
                at = obey(listing, at);
            }
            ended = at >= listing.count;
        }

        /** Does one INSTRUCTION, and answers where the next one is. */
        private int obey(Listing listing, int at) {
            int first = listing.partAt(at, 1);
            int second = listing.partAt(at, 2);
            switch (listing.partAt(at, 0)) {
                case SET: put(first, second); break;
                case MOVE: put(first, valueOf(second)); break;
                case SUM: put(first, (valueOf(second) + valueOf(listing.partAt(at, 3))) % MODULUS); break;
                case LESS: put(first, Math.max(0, valueOf(second) - 1)); break;
                case OUT: tell(valueOf(first)); break;
                case JUMP:
                    if (valueOf(first) != 0) {
                        int target = listing.targetOf(at);
                        return target >= 0 ? target : listing.count;
                    }
                    break;
                case LOAD: fetch(first, second); break;
                case STORE: keep(first, second); break;
                default: break;
            }
            return at + 1;
        }

        private int valueOf(int name) {
            return name >= 0 && name < MOST_NAMES ? values[name] : 0;
        }

        private void put(int name, int value) {
            if (name >= 0 && name < MOST_NAMES) {
                values[name] = value;
            }
        }

        private void tell(int value) {
            if (toldCount >= 0 && toldCount < RUN_STEPS) {
                told[toldCount] = value;
            }
            toldCount++;
            digest = (31 * digest + value) % DIGEST_MODULUS;
        }

        private void fetch(int name, int slot) {
            loads++;
            if (slot >= 0 && slot < MOST_NAMES) {
                put(name, slots[slot]);
            }
        }

        private void keep(int name, int slot) {
            stores++;
            if (slot >= 0 && slot < MOST_NAMES) {
                slots[slot] = valueOf(name);
            }
        }

        int answer(int what) {
            switch (what) {
                case 0: return toldCount;
                case 1: return digest;
                case 2: return stepCount;
                case 3: return ended ? 1 : 0;
                case 4: return loads;
                default: return stores;
            }
        }
    }

    /** What one image keeps. */
    private static final class Image {
        private final Listing program = new Listing();
        private int registersGiven = 0;
        private int wayToWeigh = 0;
        private boolean kept = false;
    }
}
