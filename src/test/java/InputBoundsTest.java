/** A test for each sentence of promises 8 to 11 that names a boundary case. */
public final class InputBoundsTest {
    private static final Check CHECK = new Check();
    private static final int MIXED = GossipSchedule.MIXED;
    private static final int TWO_WAY = GossipSchedule.TWO_WAY_ONLY;
    private static final int ONE_WAY = GossipSchedule.ONE_WAY_ONLY;
    private static final int COMPLETE = GossipSchedule.COMPLETE;
    private static final int LINE = GossipSchedule.LINE;
    private static final int INVALID_INPUT = GossipSchedule.INVALID_INPUT;
    private static final int NOT_NEIGHBORS = GossipSchedule.NOT_NEIGHBORS;
    private static final int PERSON_BUSY = GossipSchedule.PERSON_BUSY;
    private static final int WRONG_KIND = GossipSchedule.WRONG_KIND;
    /** 59 characters for two persons: 15 rounds of a call each, two-way and one-way in turn. */
    private static final String FULL = "0-1;1>0;".repeat(8).substring(0, Make.MOST_CHARACTERS);

    public static void main(String[] args) {
        promise8();
        promise9();
        promise10();
        promise11();
        CHECK.end();
    }

    private static void promise8() {
        CHECK.sentence("8: Returns the new length of the buffer", InputBoundsTest::newLength);
        CHECK.sentence("8: BAD_CHARACTER if code is not 32 to 126", InputBoundsTest::badCharacter);
        CHECK.sentence("8: BAD_CHARACTER [..] (checked first)", InputBoundsTest::badCharacterFirst);
        CHECK.sentence("8: BUFFER_FULL if the buffer already has 59 characters.", InputBoundsTest::bufferFull);
    }

    private static void promise9() {
        CHECK.sentence("9: Clears the input buffer.", InputBoundsTest::bufferIsCleared);
        CHECK.sentence("9: Returns the length that the buffer had.", InputBoundsTest::lengthBefore);
    }

    private static void promise10() {
        CHECK.sentence("10: Finds the first syntax error, for the number of persons of the current schedule.",
                InputBoundsTest::personsOfCurrentSchedule);
        CHECK.sentence("10: Returns the index of the first character that is a syntax error",
                InputBoundsTest::firstOfErrors);
        CHECK.sentence("10: the length of the buffer if there is none.", InputBoundsTest::noSyntaxError);
    }

    private static void promise11() {
        CHECK.sentence("11: Replaces all rounds of the schedule (empty ones, too) by those that the buffer describes",
                InputBoundsTest::roundsAreReplaced);
        CHECK.sentence("11: and clears the buffer.", InputBoundsTest::loadClearsBuffer);
        CHECK.sentence("11: Persons, mode and graph are kept.", InputBoundsTest::restIsKept);
        CHECK.sentence("11: Returns the number of calls", InputBoundsTest::numberOfCalls);
        CHECK.sentence("11: INVALID_INPUT if the buffer is not syntactically complete", InputBoundsTest::invalidInput);
        CHECK.sentence("11: INVALID_INPUT [..] (checked first)", InputBoundsTest::invalidInputFirst);
        CHECK.sentence("11: for the first call in the buffer to which one of these applies",
                InputBoundsTest::firstRefusedCall);
        CHECK.sentence("11: NOT_NEIGHBORS", InputBoundsTest::notNeighbors);
        CHECK.sentence("11: PERSON_BUSY (one of its persons takes part in an earlier call of the same round)",
                InputBoundsTest::personBusy);
        CHECK.sentence("11: or WRONG_KIND", InputBoundsTest::wrongKind);
        CHECK.sentence("11: checked in this order.", InputBoundsTest::orderOfErrors);
    }

    private static void due(String call, long got, long want) {
        CHECK.due(call, got, want);
    }

    // ---- promise 8

    private static void newLength() {
        GossipSchedule s = new GossipSchedule();
        for (int length = 1; length <= Make.MOST_CHARACTERS; length++) {
            due("append", s.append(31 + length), length);
        }
        s.clearInput();
        for (int length = 1; length <= 36; length++) {
            due("append", s.append(90 + length), length);
        }
    }

    private static void badCharacter() {
        GossipSchedule s = new GossipSchedule();
        Make.write(s, "0-");
        for (int code : new int[] {31, 127, 0, -1, -32, 10, 128, 159, 255, 256 + '1', 65536 + '1',
            Integer.MIN_VALUE, Integer.MIN_VALUE + '1', Integer.MAX_VALUE}) {
            CHECK.refused("append(" + code + ")", s, () -> s.append(code), GossipSchedule.BAD_CHARACTER);
        }
        due("append(32)", s.append(32), 3);
        due("append(126)", s.append(126), 4);
    }

    private static void badCharacterFirst() {
        GossipSchedule s = new GossipSchedule();
        Make.write(s, FULL);
        for (int code : new int[] {31, 127, -1, 0, Integer.MIN_VALUE, Integer.MAX_VALUE}) {
            CHECK.refused("append(" + code + ") to a full buffer", s, () -> s.append(code),
                    GossipSchedule.BAD_CHARACTER);
        }
    }

    private static void bufferFull() {
        GossipSchedule s = new GossipSchedule();
        Make.write(s, FULL.substring(0, 58));
        due("character 59", s.append(FULL.charAt(58)), 59);
        for (int code : new int[] {32, 126, ';', '0'}) {
            CHECK.refused("character 60: " + code, s, () -> s.append(code), GossipSchedule.BUFFER_FULL);
        }
        due("the text is as it was", s.load(), 15);
        due("and there is room again", s.append('0'), 1);
    }

    // ---- promise 9

    private static void bufferIsCleared() {
        GossipSchedule s = Make.loaded(2, "0-1;1>0");
        long empty = s.digest();
        Make.write(s, FULL);
        s.clearInput();
        due("nothing but the buffer is cleared", s.digest(), empty);
        due("no error is left", s.firstError(), 0);
        due("nothing is left to load", s.load(), INVALID_INPUT);
        Make.write(s, "1-0");
        due("no old character is behind the new ones", s.load(), 1);
        due("the new call", s.describeCall(0), 10);
    }

    private static void lengthBefore() {
        GossipSchedule s = new GossipSchedule();
        due("clearInput() of a new object", s.clearInput(), 0);
        due("clearInput() again", s.clearInput(), 0);
        s.append('x');
        due("one character", s.clearInput(), 1);
        Make.write(s, FULL);
        s.append('0');
        due("a full buffer", s.clearInput(), 59);
        due("after it", s.clearInput(), 0);
    }

    // ---- promise 10

    private static void personsOfCurrentSchedule() {
        GossipSchedule s = Make.mixed(8);
        Make.write(s, "0-1;2-0;3-0;4-0;5-0;6-0;7-0");
        for (int persons = 8; persons >= 2; persons--) {
            s.newSchedule(persons, MIXED);
            due("persons " + persons, s.firstError(), persons == 8 ? 27 : 4 * (persons - 1));
        }
        s.newSchedule(8, MIXED);
        due("eight persons again", s.firstError(), 27);
    }

    private static void firstOfErrors() {
        dueFirstError("8-1;0-1", 0);
        dueFirstError(" 0-1", 0);
        dueFirstError("~", 0);
        dueFirstError("0-0;8=8", 2);
        dueFirstError("0-1;1-1,9", 6);
        dueFirstError("0--;0-1", 2);
        GossipSchedule s = new GossipSchedule();
        Make.write(s, FULL.substring(0, 58) + "~");
        due("only the last of 59 characters", s.firstError(), 58);
        due("asking changes nothing", s.firstError(), 58);
    }

    private static void dueFirstError(String text, int want) {
        GossipSchedule s = Make.mixed(8);
        Make.write(s, text);
        due("firstError() of '" + text + "'", s.firstError(), want);
    }

    private static void noSyntaxError() {
        for (int length = 0; length <= Make.MOST_CHARACTERS; length++) {
            GossipSchedule s = new GossipSchedule();
            Make.write(s, FULL.substring(0, length));
            due("firstError() of " + length + " characters", s.firstError(), length);
        }
        GossipSchedule line = Make.schedule(4, TWO_WAY, LINE);
        Make.write(line, "0>2,0>2");
        due("persons who may not call are no syntax error", line.firstError(), 7);
    }

    // ---- promise 11

    private static void roundsAreReplaced() {
        GossipSchedule full = Make.fullOfCalls(MIXED);
        Make.addRounds(full, 9);
        Make.load(full, "7>0");
        due("rounds", full.roundCount(), 1);
        due("calls", full.callCount(), 1);
        due("the call", full.describeCall(0), 170);
        due("no old call", full.describeCall(1), GossipSchedule.NO_SUCH_CALL);
        due("what is known", full.knowledge(0, 1), 129);
        due("nobody else is busy", full.addCall(1, 2, false), 1);
        GossipSchedule empty = new GossipSchedule();
        Make.addRounds(empty, Make.MOST_ROUNDS);
        Make.load(empty, FULL);
        due("empty rounds are replaced, too", empty.roundCount(), 15);
        for (int call = 0; call < 15; call++) {
            due("call " + call, empty.describeCall(call), 1000 * call + (call % 2 == 0 ? 1 : 110));
        }
        GossipSchedule none = Make.loaded(2, "0-1");
        due("a schedule without rounds", none.roundCount(), 1);
    }

    private static void loadClearsBuffer() {
        GossipSchedule s = Make.loaded(2, FULL);
        due("no character is left", s.firstError(), 0);
        due("length", s.clearInput(), 0);
        due("a second load() has nothing", s.load(), INVALID_INPUT);
        due("append", s.append('0'), 1);
    }

    private static void restIsKept() {
        GossipSchedule s = Make.schedule(8, ONE_WAY, GossipSchedule.CUBE);
        Make.load(s, "7>6;6>2");
        due("persons", s.personCount(), 8);
        due("mode", s.addCall(0, 1, false), WRONG_KIND);
        due("graph", s.setGraph(LINE), GossipSchedule.CUBE);
        Make.load(s, "0>1");
        due("graph again", s.setGraph(COMPLETE), LINE);
        GossipSchedule two = Make.schedule(3, TWO_WAY, GossipSchedule.STAR);
        Make.load(two, "2-0");
        Make.addRounds(two, 1);
        due("mode TWO_WAY_ONLY", two.addCall(0, 1, true), WRONG_KIND);
        due("persons of three", two.personCount(), 3);
    }

    private static void numberOfCalls() {
        dueLoad(2, MIXED, COMPLETE, "0-1", 1);
        dueLoad(2, MIXED, COMPLETE, FULL, 15);
        dueLoad(8, MIXED, COMPLETE, "0-1,2>3,4-5,6>7", 4);
        dueLoad(8, MIXED, COMPLETE, "0-1,2-3,4-5,6-7;".repeat(4).substring(0, 59), 15);
    }

    private static void invalidInput() {
        for (String text : new String[] {"", "0", "0-", "0-1,", "0-1;", "0-1,2", "0-1,2-", "0-1;2>3;",
            ";", ",", "0-0", "0-4", "4-0", "0=1", "0-1.2-3", "0-1;;2-3", " 0-1", "0-1 ", "0-1\u007e"}) {
            dueLoad(4, MIXED, COMPLETE, text, INVALID_INPUT);
        }
        dueLoad(2, MIXED, COMPLETE, FULL.substring(0, 58), INVALID_INPUT);
        dueLoad(2, MIXED, COMPLETE, FULL.substring(0, 58) + "0", INVALID_INPUT);
        dueLoad(2, MIXED, COMPLETE, FULL.substring(0, 58) + "2", INVALID_INPUT);
    }

    private static void invalidInputFirst() {
        dueLoad(4, MIXED, LINE, "0-2,", INVALID_INPUT);
        dueLoad(4, MIXED, LINE, "0-2,0-4", INVALID_INPUT);
        dueLoad(4, MIXED, COMPLETE, "0-1,0-1;", INVALID_INPUT);
        dueLoad(4, MIXED, COMPLETE, "0-1,0-1;3-3", INVALID_INPUT);
        dueLoad(4, TWO_WAY, COMPLETE, "0>1;", INVALID_INPUT);
        dueLoad(4, ONE_WAY, COMPLETE, "0-1;1>4", INVALID_INPUT);
    }

    private static void firstRefusedCall() {
        dueLoad(4, TWO_WAY, LINE, "0>1;0-2", WRONG_KIND);
        dueLoad(4, TWO_WAY, LINE, "0-2;0>1", NOT_NEIGHBORS);
        dueLoad(4, MIXED, LINE, "0-1,1-2;0-2", PERSON_BUSY);
        dueLoad(4, MIXED, LINE, "0-2,1-3;0-1,0-1", NOT_NEIGHBORS);
        dueLoad(4, ONE_WAY, COMPLETE, "0>1,1>2;0-1", PERSON_BUSY);
        dueLoad(4, ONE_WAY, COMPLETE, "0-1,1>2", WRONG_KIND);
        dueLoad(2, TWO_WAY, COMPLETE, "0-1;".repeat(14) + "0>1", WRONG_KIND);
    }

    private static void notNeighbors() {
        dueLoad(4, MIXED, GossipSchedule.RING, "0-1;3-0;0-2", NOT_NEIGHBORS);
        dueLoad(4, MIXED, GossipSchedule.RING, "0-1;3-0;0-3", 3);
        dueLoad(4, MIXED, LINE, "3-0", NOT_NEIGHBORS);
        dueLoad(4, MIXED, LINE, "3-2", 1);
        dueLoad(4, MIXED, GossipSchedule.STAR, "0-1;1-2", NOT_NEIGHBORS);
        dueLoad(4, MIXED, GossipSchedule.STAR, "0-1;2-0", 2);
        dueLoad(4, MIXED, GossipSchedule.CUBE, "0-1;1-2", NOT_NEIGHBORS);
        dueLoad(4, MIXED, GossipSchedule.CUBE, "0-1;1-3", 2);
        dueLoad(2, MIXED, GossipSchedule.RING, "1>0", 1);
    }

    private static void personBusy() {
        dueLoad(8, MIXED, COMPLETE, "0-1,0-2", PERSON_BUSY);
        dueLoad(8, MIXED, COMPLETE, "0-1,2-0", PERSON_BUSY);
        dueLoad(8, MIXED, COMPLETE, "0-1,1-2", PERSON_BUSY);
        dueLoad(8, MIXED, COMPLETE, "0-1,2-1", PERSON_BUSY);
        dueLoad(8, MIXED, COMPLETE, "0-1,0-1", PERSON_BUSY);
        dueLoad(8, MIXED, COMPLETE, "0>1,2>3,4>5,6>0", PERSON_BUSY);
        dueLoad(8, MIXED, COMPLETE, "0>1,2>3,4>5,6>5", PERSON_BUSY);
        dueLoad(8, MIXED, COMPLETE, "2-3;0-1,2-3;0-1;4-5,6-7,7-3", PERSON_BUSY);
        dueLoad(8, MIXED, COMPLETE, "0-1;0-1;1>0", 3);
        dueLoad(8, MIXED, COMPLETE, "0-1,2-3;1-2,3-0;3-1,2-0", 6);
        GossipSchedule s = Make.loaded(2, "0-1");
        Make.write(s, "0-1");
        due("who is busy in the rounds that go is free", s.load(), 1);
    }

    private static void wrongKind() {
        dueLoad(4, TWO_WAY, COMPLETE, "0>1", WRONG_KIND);
        dueLoad(4, TWO_WAY, COMPLETE, "0-1,2>3", WRONG_KIND);
        dueLoad(4, TWO_WAY, COMPLETE, "0-1,2-3", 2);
        dueLoad(4, ONE_WAY, COMPLETE, "0-1", WRONG_KIND);
        dueLoad(4, ONE_WAY, COMPLETE, "0>1;2-3", WRONG_KIND);
        dueLoad(4, ONE_WAY, COMPLETE, "0>1;2>3", 2);
        dueLoad(4, MIXED, COMPLETE, "0>1;2-3", 2);
    }

    private static void orderOfErrors() {
        dueLoad(4, MIXED, LINE, "0-1,1-3", NOT_NEIGHBORS);
        dueLoad(4, TWO_WAY, LINE, "0>2", NOT_NEIGHBORS);
        dueLoad(4, TWO_WAY, LINE, "0-1,0>2", NOT_NEIGHBORS);
        dueLoad(4, TWO_WAY, LINE, "0-1,1>2", PERSON_BUSY);
        dueLoad(4, ONE_WAY, LINE, "0>1,1-2", PERSON_BUSY);
        dueLoad(4, ONE_WAY, LINE, "0>1,2-3", WRONG_KIND);
    }

    /** Over a schedule with a call and an empty round, so that a refused load() shows. */
    private static void dueLoad(int persons, int mode, int graph, String text, int want) {
        GossipSchedule s = Make.schedule(persons, mode, graph);
        Make.addRounds(s, 1);
        s.addCall(1, 0, mode == ONE_WAY);
        Make.addRounds(s, 1);
        Make.write(s, text);
        String call = "load() of '" + text + "', mode " + mode + ", graph " + graph;
        if (want < 0) {
            CHECK.refused(call, s, () -> s.load(), want);
        } else {
            due(call, s.load(), want);
            due("calls after it", s.callCount(), want);
        }
    }
}
