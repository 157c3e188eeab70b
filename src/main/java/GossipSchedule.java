/**
 * A builder, simulator and checker for gossip schedules (all-to-all information exchange by
 * telephone calls). What each method promises stands in the project's document.
 */
public final class GossipSchedule {
    public static final int COMPLETE = 0, RING = 1, LINE = 2, STAR = 3, CUBE = 4;
    public static final int MIXED = 0, TWO_WAY_ONLY = 1, ONE_WAY_ONLY = 2;
    public static final int NEVER = -1;
    public static final int BAD_CHARACTER = -2, BUFFER_FULL = -3, INVALID_INPUT = -4,
            OUT_OF_RANGE = -5, NO_SUCH_PERSON = -6, NO_SUCH_CALL = -7, NO_ROUND = -8,
            PERSON_BUSY = -9, NOT_NEIGHBORS = -10, WRONG_KIND = -11, TOO_MANY_ROUNDS = -12,
            TOO_MANY_CALLS = -13, WRONG_PERSON_COUNT = -14, TOO_LARGE = -15;

    private static final int LEAST_PERSONS = 2;
    private static final int MOST_PERSONS = 8;
    /** A person's number has no more bits than this. */
    private static final int MOST_BITS = 3;
    private static final int MOST_ROUNDS = 16;
    private static final int MOST_CALLS = 28;
    private static final int MOST_CHARACTERS = 59;
    private static final int MOST_ANALYSED_CALLS = 12;

    /** One call of the input text with the separator behind it, as in "0-1,". */
    private static final int CALL_LENGTH = 4;

    private static final int NO_ERROR = 0;
    private static final int NOBODY = 0;

    private int personTotal;
    private int scheduleMode;
    private int graphKind;
    private int roundTotal;
    private int callTotal;

    private final int[] roundOf;
    private final int[] callerOf;
    private final int[] calleeOf;
    private final boolean[] isOneWay;

    private final int[] input;
    private int inputLength;

    /**
     * What everybody knows after just the calls of a mask, by mask. The room of all calls is
     * small, so this row is made once and filled anew by each analysis.
     */
    private final long[] knownAfterMask;

    public GossipSchedule() {
        personTotal = LEAST_PERSONS;
        scheduleMode = MIXED;
        graphKind = COMPLETE;
        roundOf = new int[MOST_CALLS];
        callerOf = new int[MOST_CALLS];
        calleeOf = new int[MOST_CALLS];
        isOneWay = new boolean[MOST_CALLS];
        input = new int[MOST_CHARACTERS];
        knownAfterMask = new long[1 << MOST_ANALYSED_CALLS];
    }

    // ---- schedules

    public int newSchedule(int persons, int mode) {
        if (persons < LEAST_PERSONS || persons > MOST_PERSONS) {
            return OUT_OF_RANGE;
        }
        if (mode < MIXED || mode > ONE_WAY_ONLY) {
            return OUT_OF_RANGE;
        }
        personTotal = persons;
        scheduleMode = mode;
        graphKind = COMPLETE;
        dropRounds();
        return personTotal;
    }

    public int setGraph(int kind) {
        if (kind < COMPLETE || kind > CUBE) {
            return OUT_OF_RANGE;
        }
        if (kind == CUBE && !personsFillCube()) {
            return WRONG_PERSON_COUNT;
        }
        int previous = graphKind;
        graphKind = kind;
        return previous;
    }

    public int areNeighbors(int a, int b) {
        if (!personExists(a) || !personExists(b)) {
            return NO_SUCH_PERSON;
        }
        return graphJoins(a, b) ? 1 : 0;
    }

    public int addRound() {
        if (roundTotal >= MOST_ROUNDS) {
            return TOO_MANY_ROUNDS;
        }
        roundTotal++;
        return roundTotal;
    }

    public int addCall(int caller, int callee, boolean oneWay) {
        if (!personExists(caller) || !personExists(callee)) {
            return NO_SUCH_PERSON;
        }
        if (!graphJoins(caller, callee)) {
            return NOT_NEIGHBORS;
        }
        if (roundTotal == 0) {
            return NO_ROUND;
        }
        if ((busyInLastRound() & pairOf(caller, callee)) != NOBODY) {
            return PERSON_BUSY;
        }
        if (!modeAccepts(oneWay)) {
            return WRONG_KIND;
        }
        if (callTotal >= MOST_CALLS) {
            return TOO_MANY_CALLS;
        }
        putCall(caller, callee, oneWay);
        return callTotal - 1;
    }

    public int removeLastRound() {
        if (roundTotal == 0) {
            return NO_ROUND;
        }
        roundTotal--;
        while (callTotal > 0 && roundOf[callTotal - 1] >= roundTotal) {
            callTotal--;
        }
        return roundTotal;
    }

    // ---- input

    public int append(int code) {
        if (code < 32 || code > 126) {
            return BAD_CHARACTER;
        }
        if (inputLength >= MOST_CHARACTERS) {
            return BUFFER_FULL;
        }
        input[inputLength] = code;
        inputLength++;
        return inputLength;
    }

    public int clearInput() {
        int length = inputLength;
        inputLength = 0;
        return length;
    }

    public int firstError() {
        for (int i = 0; i < inputLength; i++) {
            if (!characterFits(i)) {
                return i;
            }
        }
        return inputLength;
    }

    public int load() {
        if (!inputIsWhole()) {
            return INVALID_INPUT;
        }
        int error = firstRefusedCall();
        if (error != NO_ERROR) {
            return error;
        }
        takeCallsOfInput();
        inputLength = 0;
        return callTotal;
    }

    // ---- known schemes

    public int buildDoubling() {
        if (!personsFillCube()) {
            return WRONG_PERSON_COUNT;
        }
        if (scheduleMode == ONE_WAY_ONLY) {
            return WRONG_KIND;
        }
        if (graphKind != COMPLETE && graphKind != CUBE) {
            return NOT_NEIGHBORS;
        }
        dropRounds();
        for (int bit = 0; bit < MOST_BITS && 1 << bit < personTotal; bit++) {
            roundTotal++;
            putCallsOverStep(1 << bit);
        }
        return callTotal;
    }

    public int buildFourCore() {
        if (personTotal < 4) {
            return WRONG_PERSON_COUNT;
        }
        if (scheduleMode == ONE_WAY_ONLY) {
            return WRONG_KIND;
        }
        if (graphKind != COMPLETE) {
            return NOT_NEIGHBORS;
        }
        dropRounds();
        putGathering(4, false);
        roundTotal++;
        putCall(0, 1, false);
        putCall(2, 3, false);
        roundTotal++;
        putCall(0, 2, false);
        putCall(1, 3, false);
        putSpreading(4, personTotal - 1, false);
        return callTotal;
    }

    public int buildGatherSpread() {
        for (int person = 1; person < personTotal; person++) {
            if (!graphJoins(0, person)) {
                return NOT_NEIGHBORS;
            }
        }
        boolean oneWay = scheduleMode == ONE_WAY_ONLY;
        int last = oneWay ? personTotal - 1 : personTotal - 2;
        dropRounds();
        putGathering(1, oneWay);
        putSpreading(1, last, oneWay);
        return callTotal;
    }

    // ---- contents

    public int personCount() {
        return personTotal;
    }

    public int roundCount() {
        return roundTotal;
    }

    public int callCount() {
        return callTotal;
    }

    public int describeCall(int call) {
        if (!callExists(call)) {
            return NO_SUCH_CALL;
        }
        int kind = isOneWay[call] ? 1 : 0;
        return 1000 * roundOf[call] + 100 * kind + 10 * callerOf[call] + calleeOf[call];
    }

    // ---- simulation

    public int knowledge(int person, int rounds) {
        if (!personExists(person)) {
            return NO_SUCH_PERSON;
        }
        if (rounds < 0 || rounds > roundTotal) {
            return OUT_OF_RANGE;
        }
        return itemsOf(knownAfterRounds(rounds), person);
    }

    public int completeAfter() {
        long everything = everythingKnown();
        long known = knownAtStart();
        for (int call = 0; call < callTotal; call++) {
            known = knownAfterCall(known, call);
            if (known == everything) {
                return roundOf[call] + 1;
            }
        }
        return NEVER;
    }

    public int redundantCalls() {
        int redundant = 0;
        long known = knownAtStart();
        for (int call = 0; call < callTotal; call++) {
            long after = knownAfterCall(known, call);
            if (after == known) {
                redundant++;
            }
            known = after;
        }
        return redundant;
    }

    public int averageKnowledge(int rounds) {
        if (rounds < 0 || rounds > roundTotal) {
            return OUT_OF_RANGE;
        }
        return averageBits(knownAfterRounds(rounds));
    }

    // ---- analysis

    public int leastCalls(boolean oneWay) {
        if (oneWay) {
            return 2 * personTotal - 2;
        }
        if (personTotal < 4) {
            return 2 * personTotal - 3;
        }
        return graphHasFourCycle() ? 2 * personTotal - 4 : 2 * personTotal - 3;
    }

    public int isCritical(int call) {
        if (!callExists(call)) {
            return NO_SUCH_CALL;
        }
        return scheduleIsComplete() && !isCompleteWithout(call) ? 1 : 0;
    }

    public int smallestSufficientCalls() {
        if (callTotal > MOST_ANALYSED_CALLS) {
            return TOO_LARGE;
        }
        if (!scheduleIsComplete()) {
            return NEVER;
        }
        fillKnownAfterMasks();
        long everything = everythingKnown();
        int masks = 1 << callTotal;
        int best = NEVER;
        int fewest = callTotal + 1;
        for (int mask = 0; mask < masks; mask++) {
            if (knownAfterMask[mask] == everything && Integer.bitCount(mask) < fewest) {
                best = mask;
                fewest = Integer.bitCount(mask);
            }
        }
        return best;
    }

    public long successProbability(int percent) {
        if (percent < 0 || percent > 100) {
            return OUT_OF_RANGE;
        }
        if (callTotal > MOST_ANALYSED_CALLS) {
            return TOO_LARGE;
        }
        fillKnownAfterMasks();
        long everything = everythingKnown();
        int masks = 1 << callTotal;
        double success = (double) percent / 100.0;
        double sum = 0.0;
        for (int mask = 0; mask < masks; mask++) {
            if (knownAfterMask[mask] == everything) {
                sum = sum + chanceOfMask(mask, success);
            }
        }
        return bitsOfDouble(sum);
    }

    public long digest() {
        long hash = 1759L;
        hash = mix(hash, personTotal);
        hash = mix(hash, scheduleMode);
        hash = mix(hash, graphKind);
        hash = mix(hash, roundTotal);
        hash = mix(hash, callTotal);
        hash = mixCalls(hash);
        hash = mixKnowledge(hash);
        hash = mix(hash, completeAfter());
        hash = mix(hash, redundantCalls());
        hash = mix(hash, leastCalls(false));
        hash = mix(hash, leastCalls(true));
        hash = mix(hash, smallestSufficientCalls());
        hash = mix(hash, successProbability(50));
        return mixInput(hash);
    }

    // ---- persons and graph

    private boolean personExists(int person) {
        return person >= 0 && person < personTotal;
    }

    private boolean personsFillCube() {
        return Integer.bitCount(personTotal) == 1;
    }

    private boolean graphJoins(int a, int b) {
        if (a == b) {
            return false;
        }
        int distance = Math.abs(a - b);
        switch (graphKind) {
            case RING:
                return distance == 1 || distance == personTotal - 1;
            case LINE:
                return distance == 1;
            case STAR:
                return a == 0 || b == 0;
            case CUBE:
                return Integer.bitCount(a ^ b) == 1;
            default:
                return true;
        }
    }

    /** For four persons or more: a smaller graph has no such cycle. */
    private boolean graphHasFourCycle() {
        return graphKind == COMPLETE || graphKind == CUBE
                || graphKind == RING && personTotal == 4;
    }

    // ---- rounds and calls

    private boolean callExists(int call) {
        return call >= 0 && call < callTotal;
    }

    private boolean modeAccepts(boolean oneWay) {
        return scheduleMode == MIXED || oneWay == (scheduleMode == ONE_WAY_ONLY);
    }

    private static int pairOf(int a, int b) {
        return 1 << a | 1 << b;
    }

    private int busyInLastRound() {
        int busy = NOBODY;
        for (int call = callTotal - 1; call >= 0 && roundOf[call] == roundTotal - 1; call--) {
            busy = busy | pairOf(callerOf[call], calleeOf[call]);
        }
        return busy;
    }

    private void dropRounds() {
        roundTotal = 0;
        callTotal = 0;
    }

    private void putCall(int caller, int callee, boolean oneWay) {
        // Callers keep the limit already; the test keeps the rows safe whoever calls.
        if (callTotal >= MOST_CALLS) {
            return;
        }
        roundOf[callTotal] = roundTotal - 1;
        callerOf[callTotal] = caller;
        calleeOf[callTotal] = callee;
        isOneWay[callTotal] = oneWay;
        callTotal++;
    }

    private void putCallsOverStep(int step) {
        for (int person = 0; person + step < personTotal; person++) {
            if ((person & step) == 0) {
                putCall(person, person + step, false);
            }
        }
    }

    private void putGathering(int first, boolean oneWay) {
        for (int person = first; person < personTotal; person++) {
            roundTotal++;
            putCall(person, 0, oneWay);
        }
    }

    private void putSpreading(int first, int last, boolean oneWay) {
        for (int person = first; person <= last; person++) {
            roundTotal++;
            putCall(0, person, oneWay);
        }
    }

    // ---- input text

    private boolean characterFits(int index) {
        int code = input[index];
        switch (index % CALL_LENGTH) {
            case 0:
                return isPersonDigit(code);
            case 1:
                return code == '-' || code == '>';
            case 2:
                return isPersonDigit(code) && code != input[index - 2];
            default:
                return code == ',' || code == ';';
        }
    }

    private boolean isPersonDigit(int code) {
        return personExists(code - '0');
    }

    private boolean inputIsWhole() {
        return inputLength % CALL_LENGTH == 3 && firstError() == inputLength;
    }

    private boolean beginsRound(int index) {
        return index == 0 || input[index - 1] == ';';
    }

    /** Looks at every call before one is taken, because a refused input changes nothing. */
    private int firstRefusedCall() {
        int busy = NOBODY;
        for (int i = 0; i + 2 < inputLength; i += CALL_LENGTH) {
            if (beginsRound(i)) {
                busy = NOBODY;
            }
            int caller = input[i] - '0';
            int callee = input[i + 2] - '0';
            if (!graphJoins(caller, callee)) {
                return NOT_NEIGHBORS;
            }
            if ((busy & pairOf(caller, callee)) != NOBODY) {
                return PERSON_BUSY;
            }
            if (!modeAccepts(input[i + 1] == '>')) {
                return WRONG_KIND;
            }
            busy = busy | pairOf(caller, callee);
        }
        return NO_ERROR;
    }

    private void takeCallsOfInput() {
        dropRounds();
        for (int i = 0; i + 2 < inputLength; i += CALL_LENGTH) {
            if (beginsRound(i)) {
                roundTotal++;
            }
            putCall(input[i] - '0', input[i + 2] - '0', input[i + 1] == '>');
        }
    }

    // ---- what the persons know: byte p of a long holds the items of person p

    private static int itemsOf(long known, int person) {
        return (int) (known >>> 8 * person) & 255;
    }

    private long knownAtStart() {
        long known = 0L;
        for (int person = 0; person < personTotal; person++) {
            known = known | 1L << 8 * person + person;
        }
        return known;
    }

    private long everythingKnown() {
        long allItems = (1L << personTotal) - 1L;
        long known = 0L;
        for (int person = 0; person < personTotal; person++) {
            known = known | allItems << 8 * person;
        }
        return known;
    }

    private long knownAfterCall(long known, int call) {
        int callerShift = 8 * callerOf[call];
        int calleeShift = 8 * calleeOf[call];
        long joined = (known >>> callerShift | known >>> calleeShift) & 255L;
        long after = known | joined << calleeShift;
        return isOneWay[call] ? after : after | joined << callerShift;
    }

    /** Calls of one round share no person, so they may be made one after the other. */
    private long knownAfterRounds(int rounds) {
        long known = knownAtStart();
        for (int call = 0; call < callTotal && roundOf[call] < rounds; call++) {
            known = knownAfterCall(known, call);
        }
        return known;
    }

    private boolean scheduleIsComplete() {
        return knownAfterRounds(roundTotal) == everythingKnown();
    }

    private boolean isCompleteWithout(int left) {
        long known = knownAtStart();
        for (int call = 0; call < callTotal; call++) {
            if (call != left) {
                known = knownAfterCall(known, call);
            }
        }
        return known == everythingKnown();
    }

    /**
     * Each call doubles the masks that are filled: a mask with this call as its last one follows
     * from the mask without it. Only for schedules that are not too large.
     */
    private void fillKnownAfterMasks() {
        knownAfterMask[0] = knownAtStart();
        for (int call = 0; call < callTotal && call < MOST_ANALYSED_CALLS; call++) {
            int filled = 1 << call;
            for (int mask = 0; mask < filled; mask++) {
                knownAfterMask[filled + mask] = knownAfterCall(knownAfterMask[mask], call);
            }
        }
    }

    private double chanceOfMask(int mask, double success) {
        double failure = 1.0 - success;
        double chance = 1.0;
        for (int call = 0; call < callTotal; call++) {
            chance = chance * ((mask >> call & 1) == 1 ? success : failure);
        }
        return chance;
    }

    // ---- bits of fractions, reckoned here because the language rules leave no library for it

    private int averageBits(long known) {
        return bitsOfFloat((float) Long.bitCount(known) / (float) personTotal);
    }

    /** For 1 and more: everybody knows an item from the start, so no average is less. */
    private static int bitsOfFloat(float value) {
        float fraction = value;
        int exponent = 127;
        while (fraction >= 2.0f && exponent < 254) {
            fraction = fraction / 2.0f;
            exponent++;
        }
        return exponent << 23 | (int) ((fraction - 1.0f) * 8388608.0f);
    }

    /**
     * For chances: less than 2, and 0 or far from the least double, because a product of twelve
     * hundredths is the least that is summed.
     */
    private static long bitsOfDouble(double value) {
        if (value <= 0.0) {
            return 0L;
        }
        double fraction = value;
        long exponent = 1023L;
        while (fraction < 1.0 && exponent > 1L) {
            fraction = fraction * 2.0;
            exponent--;
        }
        return exponent << 52 | (long) ((fraction - 1.0) * 4503599627370496.0);
    }

    // ---- digest

    private static long mix(long hash, long value) {
        return 31L * hash + value;
    }

    private long mixCalls(long hash) {
        long mixed = hash;
        for (int call = 0; call < callTotal; call++) {
            mixed = mix(mixed, describeCall(call));
            mixed = mix(mixed, isCritical(call));
        }
        return mixed;
    }

    private long mixKnowledge(long hash) {
        long mixed = hash;
        for (int rounds = 0; rounds <= roundTotal; rounds++) {
            long known = knownAfterRounds(rounds);
            for (int person = 0; person < personTotal; person++) {
                mixed = mix(mixed, itemsOf(known, person));
            }
            mixed = mix(mixed, averageBits(known));
        }
        return mixed;
    }

    private long mixInput(long hash) {
        long mixed = mix(hash, inputLength);
        for (int i = 0; i < inputLength; i++) {
            mixed = mix(mixed, input[i]);
        }
        return mixed;
    }
}
