import java.math.BigInteger;

/** A test for each sentence of promises 23 to 27 that names a boundary case. */
public final class AnalysisBoundsTest {
    private static final Check CHECK = new Check();
    private static final int LEAST = Integer.MIN_VALUE;
    private static final int MOST = Integer.MAX_VALUE;
    private static final int MIXED = GossipSchedule.MIXED;
    private static final int ONE_WAY = GossipSchedule.ONE_WAY_ONLY;
    private static final int COMPLETE = GossipSchedule.COMPLETE;
    private static final int CUBE = GossipSchedule.CUBE;
    private static final int NEVER = GossipSchedule.NEVER;
    private static final int OUT_OF_RANGE = GossipSchedule.OUT_OF_RANGE;
    private static final int NO_SUCH_CALL = GossipSchedule.NO_SUCH_CALL;
    private static final int TOO_LARGE = GossipSchedule.TOO_LARGE;
    /** Twelve calls of two persons, of which just the last brings item 1 to person 0. */
    private static final String TWELVE = "0>1;".repeat(11) + "1>0";

    public static void main(String[] args) {
        promise23();
        promise24();
        promise25();
        promise26();
        promise27();
        CHECK.end();
    }

    private static void promise23() {
        CHECK.sentence("23: it is 1 for n = 2", () -> dueLeastCalls(2, 1, 1, 1, 1, 1));
        CHECK.sentence("23: 3 for n = 3", () -> dueLeastCalls(3, 3, 3, 3, 3, 0));
        CHECK.sentence("23: otherwise 2n - 4 if the graph contains a cycle of four persons, else 2n - 3.",
                AnalysisBoundsTest::cyclesOfFour);
        CHECK.sentence("23: For one-way calls it is 2n - 2.", AnalysisBoundsTest::leastOneWayCalls);
        CHECK.sentence("23: The result depends on the number of persons and the graph only",
                AnalysisBoundsTest::leastCallsDependOn);
    }

    private static void promise24() {
        CHECK.sentence("24: the schedule is complete, and it would not be complete without this call.",
                AnalysisBoundsTest::critical);
        CHECK.sentence("24: the schedule is complete", AnalysisBoundsTest::notCriticalIfIncomplete);
        CHECK.sentence("24: NO_SUCH_CALL if the call does not exist.", AnalysisBoundsTest::noSuchCall);
    }

    private static void promise25() {
        CHECK.sentence("25: Finds a smallest set of calls that suffices", AnalysisBoundsTest::fewestCalls);
        CHECK.sentence("25: Of several sets with the least number of calls, the one whose bit mask is the least number is returned.",
                AnalysisBoundsTest::leastMask);
        CHECK.sentence("25: Returns a bit mask of calls (bit c for call c)", AnalysisBoundsTest::masksOfCalls);
        CHECK.sentence("25: TOO_LARGE if there are more than 12 calls", AnalysisBoundsTest::tooLargeForSets);
        CHECK.sentence("25: TOO_LARGE [..] (checked first)", AnalysisBoundsTest::tooLargeBeforeNever);
        CHECK.sentence("25: NEVER if the schedule is not complete.", AnalysisBoundsTest::neverSuffices);
    }

    private static void promise26() {
        CHECK.sentence("26: A call that fails has no effect.", AnalysisBoundsTest::failedCalls);
        CHECK.sentence("26: the result s starts as 0.0", AnalysisBoundsTest::noSufficientMask);
        CHECK.sentence("26: for each bit mask of successful calls in ascending order, [..] s increases by the product [..]",
                AnalysisBoundsTest::sumsInOrder);
        CHECK.sentence("26: percent: the probability in percent, 0 to 100", AnalysisBoundsTest::percentsInRange);
        CHECK.sentence("26: Returns double.doubleToLongBits of s", AnalysisBoundsTest::bitsOfTheSum);
        CHECK.sentence("26: OUT_OF_RANGE if percent is out of range", AnalysisBoundsTest::percentOutOfRange);
        CHECK.sentence("26: OUT_OF_RANGE [..] (checked first)", AnalysisBoundsTest::percentCheckedFirst);
        CHECK.sentence("26: TOO_LARGE if there are more than 12 calls.", AnalysisBoundsTest::tooLargeForSums);
    }

    private static void promise27() {
        CHECK.sentence("27: The hash starts as 1759; each value x replaces the hash by 31 * hash + x, in long arithmetic with overflow.",
                AnalysisBoundsTest::hashOverflows);
        CHECK.sentence("27: the number of persons, the mode, the kind of graph, the number of rounds, the number of calls",
                AnalysisBoundsTest::digestOfNumbers);
        CHECK.sentence("27: for each call its describeCall and its isCritical", AnalysisBoundsTest::digestOfCalls);
        CHECK.sentence("27: for each number of rounds from 0 to the number of rounds, the knowledge of each person and the averageKnowledge",
                AnalysisBoundsTest::digestOfRounds);
        CHECK.sentence("27: smallestSufficientCalls, successProbability of 50 percent",
                AnalysisBoundsTest::digestOfTooLarge);
        CHECK.sentence("27: the length of the input buffer and each of its character codes.",
                AnalysisBoundsTest::digestOfInput);
        CHECK.sentence("27: Computes a hash of the whole state.", AnalysisBoundsTest::digestOfFullObject);
    }

    private static void due(String call, long got, long want) {
        CHECK.due(call, got, want);
    }

    // ---- promise 23

    /** The answers by kind of graph; 0 where there is no such graph. */
    private static void dueLeastCalls(int persons, int... byGraph) {
        for (int graph = COMPLETE; graph <= CUBE; graph++) {
            if (byGraph[graph] != 0) {
                GossipSchedule s = Make.schedule(persons, MIXED, graph);
                due("graph " + graph + " of " + persons, s.leastCalls(false), byGraph[graph]);
            }
        }
    }

    private static void cyclesOfFour() {
        dueLeastCalls(4, 4, 4, 5, 5, 4);
        dueLeastCalls(5, 6, 7, 7, 7, 0);
        dueLeastCalls(6, 8, 9, 9, 9, 0);
        dueLeastCalls(7, 10, 11, 11, 11, 0);
        dueLeastCalls(8, 12, 13, 13, 13, 12);
    }

    private static void leastOneWayCalls() {
        int[] want = {2, 4, 6, 8, 10, 12, 14};
        for (int persons = 2; persons <= 8; persons++) {
            for (int graph = COMPLETE; graph <= CUBE; graph++) {
                if (graph != CUBE || Make.fillsCube(persons)) {
                    GossipSchedule s = Make.schedule(persons, MIXED, graph);
                    due("graph " + graph + " of " + persons, s.leastCalls(true), want[persons - 2]);
                }
            }
        }
    }

    private static void leastCallsDependOn() {
        for (int mode = MIXED; mode <= ONE_WAY; mode++) {
            GossipSchedule s = Make.fullOfCalls(mode);
            due("two-way, mode " + mode, s.leastCalls(false), 12);
            due("one-way, mode " + mode, s.leastCalls(true), 14);
            s.setGraph(GossipSchedule.LINE);
            due("two-way in a line, mode " + mode, s.leastCalls(false), 13);
            due("one-way in a line, mode " + mode, s.leastCalls(true), 14);
        }
    }

    // ---- promise 24

    private static void dueCritical(GossipSchedule s, int... want) {
        for (int call = 0; call < want.length; call++) {
            due("isCritical(" + call + ")", s.isCritical(call), want[call]);
        }
    }

    private static void critical() {
        dueCritical(Make.loaded(2, "0-1"), 1);
        dueCritical(Make.loaded(2, "0-1;0-1"), 0, 0);
        dueCritical(Make.loaded(2, "0>1;1>0"), 1, 1);
        dueCritical(Make.loaded(2, "0>1;0-1"), 0, 1);
        dueCritical(Make.loaded(3, "0-1;0-1;1-2;0-1"), 0, 0, 1, 1);
        GossipSchedule full = Make.fullOfCalls(MIXED);
        for (int i = 0; i < 3; i++) {
            full.removeLastRound();
        }
        int[][] pairs = {{0, 2}, {1, 3}, {4, 6}, {5, 7}, {0, 4}, {1, 5}, {2, 6}, {3, 7}};
        for (int i = 0; i < 8; i++) {
            if (i % 4 == 0) {
                Make.addRounds(full, 1);
            }
            full.addCall(pairs[i][0], pairs[i][1], false);
        }
        dueCritical(full, 0, 0, 0, 0, 0, 0, 0, 0, 0, 0, 0, 0, 0, 0, 0, 0, 1, 1, 1, 1, 1, 1, 1, 1);
        GossipSchedule last = new GossipSchedule();
        Make.addRounds(last, 1);
        last.addCall(0, 1, true);
        for (int call = 1; call < 15; call++) {
            Make.addRounds(last, 1);
            last.addCall(0, 1, true);
        }
        Make.addRounds(last, 1);
        last.addCall(1, 0, true);
        due("the last of 16 calls", last.isCritical(15), 1);
        due("one of many", last.isCritical(0), 0);
    }

    private static void notCriticalIfIncomplete() {
        dueCritical(Make.loaded(2, "0>1"), 0);
        dueCritical(Make.loaded(3, "0-1;1-2"), 0, 0);
        dueCritical(Make.fullOfCalls(MIXED), new int[Make.MOST_CALLS]);
    }

    private static void noSuchCall() {
        GossipSchedule none = new GossipSchedule();
        due("no calls", none.isCritical(0), NO_SUCH_CALL);
        GossipSchedule s = Make.loaded(2, "0-1;0-1");
        for (int call : new int[] {-1, 2, 3, 27, 28, 32, 33, 64, LEAST, MOST}) {
            CHECK.refused("isCritical(" + call + ")", s, () -> s.isCritical(call), NO_SUCH_CALL);
        }
        s.removeLastRound();
        due("a removed call", s.isCritical(1), NO_SUCH_CALL);
        due("the one left", s.isCritical(0), 1);
        GossipSchedule full = Make.fullOfCalls(MIXED);
        due("the last of 28", full.isCritical(27), 0);
        due("behind the last of 28", full.isCritical(28), NO_SUCH_CALL);
    }

    // ---- promise 25

    private static void fewestCalls() {
        due("one call alone", Make.loaded(2, "0-1").smallestSufficientCalls(), 1);
        due("one call of a higher mask", Make.loaded(2, "0>1;1>0;0-1").smallestSufficientCalls(), 4);
        due("all calls", Make.loaded(4, "0-1,2-3;0-2,1-3").smallestSufficientCalls(), 15);
        due("all but the redundant ones", Make.loaded(3, "0-1;0-1;1-2;1-2;0-1").smallestSufficientCalls(), 21);
    }

    private static void leastMask() {
        due("three calls of the same use", Make.loaded(2, "0-1;1-0;0-1").smallestSufficientCalls(), 1);
        due("behind one that does not suffice", Make.loaded(2, "0>1;0-1;1-0").smallestSufficientCalls(), 2);
        due("pairs: the lowest of each kind", Make.loaded(2, "0>1;1>0;0>1;1>0").smallestSufficientCalls(), 3);
        due("triples", Make.loaded(3, "0-1;0-1;1-2;1-2;0-1;0-2").smallestSufficientCalls(), 21);
    }

    private static void masksOfCalls() {
        due("the first and the last of 12", Make.loaded(2, TWELVE).smallestSufficientCalls(), 2049);
        due("the last of 12 alone", Make.loaded(2, "0>1;".repeat(11) + "0-1").smallestSufficientCalls(), 2048);
        GossipSchedule s = Make.mixed(8);
        s.buildDoubling();
        due("all of 12", s.smallestSufficientCalls(), 4095);
    }

    private static void tooLargeForSets() {
        GossipSchedule s = Make.loaded(2, TWELVE);
        due("12 calls", s.smallestSufficientCalls(), 2049);
        Make.addSameCalls(s, 1);
        CHECK.refused("13 calls", s, () -> s.smallestSufficientCalls(), TOO_LARGE);
        s.removeLastRound();
        due("12 calls again", s.smallestSufficientCalls(), 2049);
        GossipSchedule full = Make.fullOfCalls(MIXED);
        CHECK.refused("28 calls", full, () -> full.smallestSufficientCalls(), TOO_LARGE);
        GossipSchedule rounds = Make.loaded(2, "0-1");
        Make.addRounds(rounds, 15);
        due("16 rounds with one call are not too large", rounds.smallestSufficientCalls(), 1);
    }

    private static void tooLargeBeforeNever() {
        GossipSchedule s = Make.mixed(3);
        Make.addSameCalls(s, 13);
        due("13 calls, not complete", s.smallestSufficientCalls(), TOO_LARGE);
        s.removeLastRound();
        due("12 calls, not complete", s.smallestSufficientCalls(), NEVER);
    }

    private static void neverSuffices() {
        GossipSchedule s = new GossipSchedule();
        due("no calls", s.smallestSufficientCalls(), NEVER);
        Make.addRounds(s, 1);
        due("an empty round", s.smallestSufficientCalls(), NEVER);
        s.addCall(0, 1, true);
        due("one-way alone", s.smallestSufficientCalls(), NEVER);
        due("one item is lacking", Make.loaded(3, "0-1;1-2").smallestSufficientCalls(), NEVER);
    }

    // ---- promise 26

    private static long bits(double value) {
        return Double.doubleToLongBits(value);
    }

    private static void failedCalls() {
        GossipSchedule s = Make.loaded(3, "0-1;1-2;0-1");
        due("nothing fails", s.successProbability(100), bits(1.0));
        due("everything fails", s.successProbability(0), bits(0.0));
        due("all three are needed", s.successProbability(50), bits(0.125));
        due("one of two is needed", Make.loaded(2, "0-1;1-0").successProbability(50), bits(0.75));
        due("both of two are needed", Make.loaded(2, "0>1;1>0").successProbability(50), bits(0.25));
    }

    private static void noSufficientMask() {
        GossipSchedule s = new GossipSchedule();
        for (int percent : new int[] {0, 50, 100}) {
            due("no calls, " + percent, s.successProbability(percent), 0L);
            due("one-way alone, " + percent, Make.loaded(2, "0>1").successProbability(percent), 0L);
            due("one item is lacking, " + percent, Make.loaded(3, "0-1;1-2").successProbability(percent), 0L);
        }
    }

    private static void sumsInOrder() {
        for (int percent = 0; percent <= 100; percent++) {
            double p = percent / 100.0;
            double q = 1.0 - p;
            double s = 0.0;
            s += 1.0 * p * q * q;
            s += 1.0 * q * p * q;
            s += 1.0 * p * p * q;
            s += 1.0 * q * q * p;
            s += 1.0 * p * q * p;
            s += 1.0 * q * p * p;
            s += 1.0 * p * p * p;
            due("three calls, " + percent, Make.loaded(2, "0-1;0-1;0-1").successProbability(percent), bits(s));
        }
        duePlain(4, "0-1,2-3;0-2,1-3;0>1,3-2;1-3");
        duePlain(3, "0>1;1>2;2>0;0>1;1-2;0-2");
        duePlain(2, TWELVE);
    }

    /** All percents of one schedule, against the second telling of the document. */
    private static void duePlain(int persons, String text) {
        GossipSchedule s = Make.loaded(persons, text);
        PlainSchedule plain = new PlainSchedule();
        plain.newSchedule(persons, MIXED);
        for (int i = 0; i < text.length(); i++) {
            plain.append(text.charAt(i));
        }
        plain.load();
        for (int percent = 0; percent <= 100; percent++) {
            due(percent + " percent of " + text, s.successProbability(percent), plain.successProbability(percent));
        }
    }

    private static void percentsInRange() {
        GossipSchedule s = Make.loaded(2, "0-1");
        for (int percent = 0; percent <= 100; percent++) {
            due(percent + " percent", s.successProbability(percent), bits(percent / 100.0));
        }
    }

    private static void bitsOfTheSum() {
        GossipSchedule s = Make.mixed(8);
        s.buildDoubling();
        double least = 1.0;
        double most = 1.0;
        for (int call = 0; call < 12; call++) {
            least *= 1 / 100.0;
            most *= 99 / 100.0;
        }
        due("0.0", s.successProbability(0), 0L);
        due("the least above 0.0", s.successProbability(1), bits(least));
        due("2 to the power of -12", s.successProbability(50), 1011L << 52);
        due("just below 1.0", s.successProbability(99), bits(most));
        due("1.0", s.successProbability(100), 1023L << 52);
        GossipSchedule same = Make.loaded(2, "0-1;".repeat(11) + "0-1");
        due("rounded to more than 1.0", same.successProbability(96), bits(1.0000000000000013));
        due("rounded to the next above 1.0", same.successProbability(98), bits(1.0000000000000002));
        duePlain(2, "0-1;".repeat(11) + "0-1");
    }

    private static void percentOutOfRange() {
        GossipSchedule s = Make.loaded(2, "0-1");
        for (int percent : new int[] {-1, 101, -100, 200, 256, LEAST, MOST}) {
            long before = s.digest();
            due("percent " + percent, s.successProbability(percent), OUT_OF_RANGE);
            due("digest() after it", s.digest(), before);
        }
    }

    private static void percentCheckedFirst() {
        GossipSchedule s = new GossipSchedule();
        Make.addSameCalls(s, 13);
        due("13 calls, 101", s.successProbability(101), OUT_OF_RANGE);
        due("13 calls, -1", s.successProbability(-1), OUT_OF_RANGE);
        due("13 calls, 100", s.successProbability(100), TOO_LARGE);
        due("13 calls, 0", s.successProbability(0), TOO_LARGE);
    }

    private static void tooLargeForSums() {
        GossipSchedule s = Make.loaded(2, TWELVE);
        due("12 calls", s.successProbability(100), bits(1.0));
        Make.addSameCalls(s, 1);
        due("13 calls", s.successProbability(100), TOO_LARGE);
        s.removeLastRound();
        due("12 calls again", s.successProbability(100), bits(1.0));
        due("28 calls", Make.fullOfCalls(ONE_WAY).successProbability(50), TOO_LARGE);
        GossipSchedule incomplete = Make.mixed(3);
        Make.addSameCalls(incomplete, 13);
        due("13 calls, not complete", incomplete.successProbability(50), TOO_LARGE);
    }

    // ---- promise 27

    private static long hashOf(long... values) {
        long hash = 1759L;
        for (long value : values) {
            hash = 31L * hash + value;
        }
        return hash;
    }

    private static long average(float value) {
        return Float.floatToIntBits(value);
    }

    private static void hashOverflows() {
        due("a new object", new GossipSchedule().digest(),
                hashOf(2, 0, 0, 0, 0, 1, 2, average(1.0f), NEVER, 0, 1, 2, NEVER, 0L, 0));
        GossipSchedule s = new GossipSchedule();
        BigInteger exact = BigInteger.valueOf(1759);
        long[] values = {2, 0, 0, 0, 0, 1, 2, average(1.0f), NEVER, 0, 1, 2, NEVER, 0L, 2, '~', ' '};
        for (long value : values) {
            exact = exact.multiply(BigInteger.valueOf(31)).add(BigInteger.valueOf(value));
        }
        Make.write(s, "~ ");
        due("the exact hash is longer than a long", exact.bitLength() > 64 ? 1 : 0, 1);
        due("its lowest 64 bits", s.digest(), exact.longValue());
    }

    private static void digestOfNumbers() {
        GossipSchedule s = Make.schedule(3, ONE_WAY, GossipSchedule.STAR);
        due("no rounds", s.digest(), hashOf(3, 2, 3, 0, 0, 1, 2, 4, average(1.0f), NEVER, 0, 3, 4, NEVER, 0L, 0));
        Make.addRounds(s, 1);
        due("an empty round", s.digest(), hashOf(3, 2, 3, 1, 0, 1, 2, 4, average(1.0f), 1, 2, 4, average(1.0f),
                NEVER, 0, 3, 4, NEVER, 0L, 0));
        s.addCall(2, 0, true);
        due("a call", s.digest(), hashOf(3, 2, 3, 1, 1, 120, 0, 1, 2, 4, average(1.0f),
                5, 2, 4, average(4.0f / 3.0f), NEVER, 0, 3, 4, NEVER, 0L, 0));
    }

    private static void digestOfCalls() {
        GossipSchedule s = Make.loaded(2, "0>1;0-1;1>0");
        due("a critical call between others", s.digest(), hashOf(2, 0, 0, 3, 3, 101, 0, 1001, 0, 2110, 0,
                1, 2, average(1.0f), 1, 3, average(1.5f), 3, 3, average(2.0f), 3, 3, average(2.0f),
                2, 1, 1, 2, 2, bits(0.625), 0));
        GossipSchedule one = Make.loaded(2, "1-0");
        due("one critical call", one.digest(), hashOf(2, 0, 0, 1, 1, 10, 1,
                1, 2, average(1.0f), 3, 3, average(2.0f), 1, 0, 1, 2, 1, bits(0.5), 0));
    }

    private static void digestOfRounds() {
        GossipSchedule s = new GossipSchedule();
        Make.addRounds(s, Make.MOST_ROUNDS);
        s.addCall(0, 1, false);
        long[] values = new long[7 + 17 * 3 + 7];
        long[] start = {2, 0, 0, 16, 1, 15001, 1};
        System.arraycopy(start, 0, values, 0, 7);
        for (int rounds = 0; rounds <= 16; rounds++) {
            values[7 + 3 * rounds] = rounds == 16 ? 3 : 1;
            values[8 + 3 * rounds] = rounds == 16 ? 3 : 2;
            values[9 + 3 * rounds] = average(rounds == 16 ? 2.0f : 1.0f);
        }
        long[] end = {16, 0, 1, 2, 1, bits(0.5), 0};
        System.arraycopy(end, 0, values, 58, 7);
        due("16 rounds", s.digest(), hashOf(values));
    }

    private static void digestOfTooLarge() {
        GossipSchedule s = new GossipSchedule();
        PlainSchedule plain = new PlainSchedule();
        for (int calls = 1; calls <= 14; calls++) {
            Make.addSameCalls(s, 1);
            plain.addRound();
            plain.addCall(0, 1, false);
            due(calls + " calls", s.digest(), plain.digest());
        }
        long[] values = new long[5 + 2 * 13 + 3 * 14 + 7];
        values[0] = 2;
        values[3] = 13;
        values[4] = 13;
        for (int call = 0; call < 13; call++) {
            values[5 + 2 * call] = 1000 * call + 1;
        }
        for (int rounds = 0; rounds <= 13; rounds++) {
            values[31 + 3 * rounds] = rounds == 0 ? 1 : 3;
            values[32 + 3 * rounds] = rounds == 0 ? 2 : 3;
            values[33 + 3 * rounds] = average(rounds == 0 ? 1.0f : 2.0f);
        }
        long[] end = {1, 12, 1, 2, TOO_LARGE, TOO_LARGE, 0};
        System.arraycopy(end, 0, values, 73, 7);
        s.removeLastRound();
        due("13 calls, written out", s.digest(), hashOf(values));
    }

    private static void digestOfInput() {
        GossipSchedule s = new GossipSchedule();
        long hash = hashOf(2, 0, 0, 0, 0, 1, 2, average(1.0f), NEVER, 0, 1, 2, NEVER, 0L);
        due("an empty buffer", s.digest(), 31L * hash);
        long full = 31L * hash + Make.MOST_CHARACTERS;
        for (int i = 0; i < Make.MOST_CHARACTERS; i++) {
            int code = i == 0 ? 126 : i == 58 ? 32 : 40 + i;
            s.append(code);
            full = 31L * full + code;
        }
        due("a full buffer", s.digest(), full);
        s.clearInput();
        due("a cleared buffer", s.digest(), 31L * hash);
        s.append('~');
        due("one character", s.digest(), 31L * (31L * hash + 1L) + '~');
    }

    private static void digestOfFullObject() {
        GossipSchedule s = Make.fullOfCalls(ONE_WAY);
        Make.addRounds(s, 9);
        s.setGraph(CUBE);
        Make.write(s, "0".repeat(59));
        PlainSchedule plain = new PlainSchedule();
        plain.newSchedule(8, ONE_WAY);
        for (int call = 0; call < Make.MOST_CALLS; call++) {
            if (call % 4 == 0) {
                plain.addRound();
            }
            plain.addCall(2 * (call % 4), 2 * (call % 4) + 1, true);
        }
        for (int round = 7; round < Make.MOST_ROUNDS; round++) {
            plain.addRound();
        }
        plain.setGraph(CUBE);
        for (int i = 0; i < 59; i++) {
            plain.append('0');
        }
        due("28 calls, 16 rounds, 59 characters", s.digest(), plain.digest());
        due("asking changes nothing", s.digest(), plain.digest());
    }
}
