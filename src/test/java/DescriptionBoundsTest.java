/** A test for each sentence of the document's "Description" that names a boundary case. */
public final class DescriptionBoundsTest {
    private static final Check CHECK = new Check();
    private static final int MIXED = GossipSchedule.MIXED;
    private static final int TWO_WAY = GossipSchedule.TWO_WAY_ONLY;
    private static final int ONE_WAY = GossipSchedule.ONE_WAY_ONLY;

    public static void main(String[] args) {
        CHECK.sentence("An object is used for at most 512 calls after it has been made",
                DescriptionBoundsTest::the512thCall);
        persons();
        graphs();
        input();
        limits();
        CHECK.end();
    }

    private static void persons() {
        CHECK.sentence("A schedule has 2 to 8 persons, numbered from 0", DescriptionBoundsTest::personNumbers);
        CHECK.sentence("Calls are numbered from 0 over the whole schedule", DescriptionBoundsTest::callNumbers);
        CHECK.sentence("A call joins two different persons", DescriptionBoundsTest::differentPersons);
        CHECK.sentence("It is a two-way call or a one-way call.", DescriptionBoundsTest::bothKinds);
        CHECK.sentence("In one round, each person takes part in at most one call.",
                DescriptionBoundsTest::oneCallEach);
        CHECK.sentence("At the start, person p knows exactly one item, item p.",
                DescriptionBoundsTest::atTheStart);
        CHECK.sentence("After a two-way call, both persons know every item that at least one of them knew",
                DescriptionBoundsTest::twoWayCall);
        CHECK.sentence("After a one-way call, [..] the caller knows what it knew before.",
                DescriptionBoundsTest::oneWayCall);
        CHECK.sentence("A schedule is complete if, after its last round, every person knows every item.",
                DescriptionBoundsTest::complete);
    }

    private static void graphs() {
        CHECK.sentence("COMPLETE: any two persons are neighbors.", DescriptionBoundsTest::completeGraph);
        CHECK.sentence("RING: [..] person 0 and the last person are neighbors.", DescriptionBoundsTest::ring);
        CHECK.sentence("In a ring of two persons, these are neighbors.", DescriptionBoundsTest::ringOfTwo);
        CHECK.sentence("LINE: persons p and p + 1 are neighbors.", DescriptionBoundsTest::line);
        CHECK.sentence("STAR: person 0 and any other person are neighbors.", DescriptionBoundsTest::star);
        CHECK.sentence("CUBE: [..] differ in exactly one bit.", DescriptionBoundsTest::cube);
        CHECK.sentence("It requires 2, 4 or 8 persons.", DescriptionBoundsTest::cubeRequires);
        CHECK.sentence("MIXED accepts both kinds of calls, TWO_WAY_ONLY and ONE_WAY_ONLY accept one kind.",
                DescriptionBoundsTest::modes);
    }

    private static void input() {
        CHECK.sentence("an input buffer of at most 59 characters", DescriptionBoundsTest::bufferLength);
        CHECK.sentence("A comma separates two calls of one round; a semicolon ends a round and begins the next one.",
                DescriptionBoundsTest::separators);
        CHECK.sentence("for i % 4 == 0, a digit less than the number of persons",
                () -> dueAllowed("", true, ""));
        CHECK.sentence("for i % 4 == 1, '-' or '>'", () -> dueAllowed("0", false, "->"));
        CHECK.sentence("for i % 4 == 2, a digit less than the number of persons and different from the digit at index i - 2",
                DescriptionBoundsTest::calleeDigit);
        CHECK.sentence("for i % 4 == 3, ',' or ';'", () -> dueAllowed("0-1", false, ",;"));
        CHECK.sentence("A character for which this does not hold is a syntax error.",
                DescriptionBoundsTest::laterCharacters);
        CHECK.sentence("An input is syntactically complete if it has no syntax error and its last character is the digit of a callee.",
                DescriptionBoundsTest::syntacticallyComplete);
    }

    private static void limits() {
        CHECK.sentence("A schedule has at most 16 rounds", DescriptionBoundsTest::mostRounds);
        CHECK.sentence("and at most 28 calls.", DescriptionBoundsTest::mostCalls);
        CHECK.sentence("A method that returns an error code changes nothing.",
                DescriptionBoundsTest::errorsChangeNothing);
        CHECK.sentence("A new simulator has a schedule of 2 persons without rounds, mode MIXED, graph COMPLETE.",
                DescriptionBoundsTest::newSimulator);
    }

    private static void due(String call, long got, long want) {
        CHECK.due(call, got, want);
    }

    /** Each answer takes a call, so the 512th call is the first digest after 511 others. */
    private static void the512thCall() {
        GossipSchedule s = new GossipSchedule();
        PlainSchedule plain = new PlainSchedule();
        for (int call = 1; call <= 509; call++) {
            due("call " + call, s.append(32 + call % 95), plain.append(32 + call % 95));
        }
        due("call 510", s.addRound(), plain.addRound());
        due("call 511", s.addCall(1, 0, true), plain.addCall(1, 0, true));
        due("call 512", s.digest(), plain.digest());
    }

    private static void personNumbers() {
        for (int persons = 2; persons <= 8; persons++) {
            GossipSchedule s = Make.mixed(persons);
            due("persons", s.personCount(), persons);
            due("person -1 of " + persons, s.knowledge(-1, 0), GossipSchedule.NO_SUCH_PERSON);
            due("person 0 of " + persons, s.knowledge(0, 0), 1);
            due("the last of " + persons, s.knowledge(persons - 1, 0), 1 << persons - 1);
            due("beyond the last of " + persons, s.knowledge(persons, 0), GossipSchedule.NO_SUCH_PERSON);
        }
        GossipSchedule s = new GossipSchedule();
        due("one person is too few", s.newSchedule(1, MIXED), GossipSchedule.OUT_OF_RANGE);
        due("nine persons are too many", s.newSchedule(9, MIXED), GossipSchedule.OUT_OF_RANGE);
    }

    private static void callNumbers() {
        GossipSchedule s = Make.mixed(6);
        Make.addRounds(s, 2);
        due("the first call, behind an empty round", s.addCall(5, 4, false), 0);
        due("the second of its round", s.addCall(0, 1, true), 1);
        due("the third of its round", s.addCall(3, 2, false), 2);
        Make.addRounds(s, 3);
        due("the first of a later round", s.addCall(0, 2, true), 3);
        due("call 0", s.describeCall(0), 1054);
        due("call 1", s.describeCall(1), 1101);
        due("call 2", s.describeCall(2), 1032);
        due("call 3", s.describeCall(3), 4102);
        due("call 4", s.describeCall(4), GossipSchedule.NO_SUCH_CALL);
    }

    private static void differentPersons() {
        for (int graph = GossipSchedule.COMPLETE; graph <= GossipSchedule.CUBE; graph++) {
            GossipSchedule s = Make.schedule(4, MIXED, graph);
            Make.addRounds(s, 1);
            for (int person = 0; person < 4; person++) {
                due(person + " calls itself", s.addCall(person, person, false), GossipSchedule.NOT_NEIGHBORS);
                due(person + " calls itself one-way", s.addCall(person, person, true),
                        GossipSchedule.NOT_NEIGHBORS);
            }
            Make.write(s, "3-3");
            due("itself in the input", s.load(), GossipSchedule.INVALID_INPUT);
        }
    }

    private static void bothKinds() {
        GossipSchedule s = Make.mixed(4);
        Make.addRounds(s, 1);
        due("two-way", s.addCall(0, 1, false), 0);
        due("one-way", s.addCall(2, 3, true), 1);
        due("two-way described", s.describeCall(0), 1);
        due("one-way described", s.describeCall(1), 123);
    }

    private static void oneCallEach() {
        GossipSchedule s = Make.mixed(8);
        Make.addRounds(s, 1);
        for (int person = 0; person < 8; person += 2) {
            due("call of " + person, s.addCall(person, person + 1, person == 4), person / 2);
        }
        for (int a = 0; a < 8; a++) {
            int b = (a + 3) % 8;
            due("a second call of " + a + " and " + b, s.addCall(a, b, false), GossipSchedule.PERSON_BUSY);
        }
        due("calls", s.callCount(), 4);
    }

    private static void atTheStart() {
        for (int persons = 2; persons <= 8; persons++) {
            GossipSchedule s = Make.mixed(persons);
            s.buildGatherSpread();
            for (int person = 0; person < persons; person++) {
                due(person + " of " + persons + " at the start", s.knowledge(person, 0), 1 << person);
            }
        }
    }

    private static void twoWayCall() {
        GossipSchedule s = Make.loaded(8, "0-7,5-6;0-5,7-1;7-5");
        due("caller of the first", s.knowledge(0, 1), 129);
        due("callee of the first", s.knowledge(7, 1), 129);
        due("who did not call", s.knowledge(1, 1), 2);
        due("caller who learns", s.knowledge(0, 2), 225);
        due("callee who learns", s.knowledge(5, 2), 225);
        due("callee of 7", s.knowledge(1, 2), 131);
        due("caller at the end", s.knowledge(7, 3), 227);
        due("callee at the end", s.knowledge(5, 3), 227);
        due("a person of before", s.knowledge(0, 3), 225);
    }

    private static void oneWayCall() {
        GossipSchedule s = Make.loaded(8, "7>0,5-6;0>5,1>7;5>7");
        due("caller", s.knowledge(7, 1), 128);
        due("callee", s.knowledge(0, 1), 129);
        due("caller who knows two", s.knowledge(0, 2), 129);
        due("callee who knew two", s.knowledge(5, 2), 225);
        due("caller of before is callee", s.knowledge(7, 2), 130);
        due("caller at the end", s.knowledge(5, 3), 225);
        due("callee at the end", s.knowledge(7, 3), 227);
    }

    private static void complete() {
        GossipSchedule s = new GossipSchedule();
        due("without rounds", s.completeAfter(), GossipSchedule.NEVER);
        due("one person lacks one item", Make.loaded(3, "0-1;1-2").completeAfter(), GossipSchedule.NEVER);
        due("the last item in the last round", Make.loaded(3, "0-1;1-2;0-1").completeAfter(), 3);
        GossipSchedule last = Make.mixed(8);
        last.buildGatherSpread();
        due("eight persons", last.completeAfter(), 13);
        last.removeLastRound();
        due("only the last person but one lacks something", last.completeAfter(), GossipSchedule.NEVER);
    }

    private static void completeGraph() {
        for (int persons = 2; persons <= 8; persons++) {
            GossipSchedule s = Make.mixed(persons);
            for (int a = 0; a < persons; a++) {
                for (int b = 0; b < persons; b++) {
                    due(a + " and " + b + " of " + persons, s.areNeighbors(a, b), a == b ? 0 : 1);
                }
            }
        }
    }

    private static void ring() {
        for (int persons = 3; persons <= 8; persons++) {
            GossipSchedule s = Make.schedule(persons, MIXED, GossipSchedule.RING);
            int last = persons - 1;
            due("0 and the last of " + persons, s.areNeighbors(0, last), 1);
            due("the last and 0 of " + persons, s.areNeighbors(last, 0), 1);
            for (int a = 0; a < last; a++) {
                due(a + " and the next", s.areNeighbors(a, a + 1), 1);
                due(a + " and the one before", s.areNeighbors(a + 1, a), 1);
            }
            for (int a = 0; a + 2 < persons; a++) {
                due(a + " and the next but one of " + persons, s.areNeighbors(a, a + 2), persons == 3 ? 1 : 0);
            }
            due("1 and the last of " + persons, s.areNeighbors(1, last), persons == 3 ? 1 : 0);
            due("the last but one and 0 of " + persons, s.areNeighbors(last - 1, 0), persons == 3 ? 1 : 0);
            Make.addRounds(s, 1);
            due("a call over the end", s.addCall(last, 0, false), 0);
        }
    }

    private static void ringOfTwo() {
        GossipSchedule s = Make.schedule(2, MIXED, GossipSchedule.RING);
        due("0 and 1", s.areNeighbors(0, 1), 1);
        due("1 and 0", s.areNeighbors(1, 0), 1);
        due("0 and 0", s.areNeighbors(0, 0), 0);
        due("1 and 1", s.areNeighbors(1, 1), 0);
    }

    private static void line() {
        for (int persons = 2; persons <= 8; persons++) {
            GossipSchedule s = Make.schedule(persons, MIXED, GossipSchedule.LINE);
            for (int a = 0; a < persons; a++) {
                for (int b = 0; b < persons; b++) {
                    due(a + " and " + b + " of " + persons, s.areNeighbors(a, b),
                            a + 1 == b || b + 1 == a ? 1 : 0);
                }
            }
        }
        GossipSchedule s = Make.schedule(8, MIXED, GossipSchedule.LINE);
        Make.addRounds(s, 1);
        due("no call over the end", s.addCall(7, 0, false), GossipSchedule.NOT_NEIGHBORS);
    }

    private static void star() {
        for (int persons = 2; persons <= 8; persons++) {
            GossipSchedule s = Make.schedule(persons, MIXED, GossipSchedule.STAR);
            for (int a = 0; a < persons; a++) {
                for (int b = 0; b < persons; b++) {
                    due(a + " and " + b + " of " + persons, s.areNeighbors(a, b),
                            a == 0 && b > 0 || b == 0 && a > 0 ? 1 : 0);
                }
            }
        }
    }

    private static void cube() {
        GossipSchedule s = Make.schedule(8, MIXED, GossipSchedule.CUBE);
        int[][] neighbors = {{1, 2, 4}, {0, 3, 5}, {0, 3, 6}, {1, 2, 7}, {0, 5, 6}, {1, 4, 7}, {2, 4, 7}, {3, 5, 6}};
        for (int a = 0; a < 8; a++) {
            for (int b = 0; b < 8; b++) {
                boolean joined = neighbors[a][0] == b || neighbors[a][1] == b || neighbors[a][2] == b;
                due(a + " and " + b, s.areNeighbors(a, b), joined ? 1 : 0);
            }
        }
        GossipSchedule two = Make.schedule(2, MIXED, GossipSchedule.CUBE);
        due("a cube of two", two.areNeighbors(0, 1), 1);
        GossipSchedule four = Make.schedule(4, MIXED, GossipSchedule.CUBE);
        due("one bit of four", four.areNeighbors(1, 3), 1);
        due("two bits of four", four.areNeighbors(1, 2), 0);
        due("two bits of four, 0 and the last", four.areNeighbors(3, 0), 0);
    }

    private static void cubeRequires() {
        for (int persons = 2; persons <= 8; persons++) {
            GossipSchedule s = Make.mixed(persons);
            due("a cube of " + persons, s.setGraph(GossipSchedule.CUBE),
                    Make.fillsCube(persons) ? GossipSchedule.COMPLETE : GossipSchedule.WRONG_PERSON_COUNT);
        }
    }

    private static void modes() {
        int[] twoWay = {0, 0, GossipSchedule.WRONG_KIND};
        int[] oneWay = {0, GossipSchedule.WRONG_KIND, 0};
        for (int mode = MIXED; mode <= ONE_WAY; mode++) {
            GossipSchedule two = Make.schedule(2, mode, GossipSchedule.COMPLETE);
            Make.addRounds(two, 1);
            due("two-way in mode " + mode, two.addCall(0, 1, false), twoWay[mode]);
            GossipSchedule one = Make.schedule(2, mode, GossipSchedule.COMPLETE);
            Make.addRounds(one, 1);
            due("one-way in mode " + mode, one.addCall(0, 1, true), oneWay[mode]);
        }
    }

    private static void bufferLength() {
        GossipSchedule s = new GossipSchedule();
        for (int length = 1; length <= Make.MOST_CHARACTERS; length++) {
            due("character " + length, s.append(' '), length);
        }
        due("character 60", s.append(' '), GossipSchedule.BUFFER_FULL);
        due("length", s.clearInput(), 59);
    }

    private static void separators() {
        GossipSchedule one = Make.loaded(8, "0-1,2-3,4-5,6-7");
        due("commas alone: rounds", one.roundCount(), 1);
        due("commas alone: the last call", one.describeCall(3), 67);
        GossipSchedule four = Make.loaded(8, "0-1;2-3;4-5;6-7");
        due("semicolons alone: rounds", four.roundCount(), 4);
        due("semicolons alone: the last call", four.describeCall(3), 3067);
        GossipSchedule single = Make.loaded(8, "6>7");
        due("no separator: rounds", single.roundCount(), 1);
        GossipSchedule s = Make.loaded(4, "0-1,2-3;0-2,1-3");
        due("the document's example: rounds", s.roundCount(), 2);
        int[] calls = {1, 23, 1002, 1013};
        for (int call = 0; call < 4; call++) {
            due("the document's example: call " + call, s.describeCall(call), calls[call]);
        }
    }

    /** Behind the start, each character that can be appended is an error or is none. */
    private static void dueAllowed(String start, boolean digits, String signs) {
        for (int persons = 2; persons <= 8; persons++) {
            for (int code = 32; code <= 126; code++) {
                boolean digit = digits && code >= '0' && code < '0' + persons;
                boolean fits = digit || signs.indexOf(code) >= 0;
                dueFirstError(persons, start + (char) code, start.length() + (fits ? 1 : 0));
            }
        }
    }

    private static void dueFirstError(int persons, String text, int want) {
        GossipSchedule s = Make.mixed(persons);
        Make.write(s, text);
        due("firstError() of '" + text + "', persons " + persons, s.firstError(), want);
    }

    private static void calleeDigit() {
        for (int persons = 2; persons <= 8; persons++) {
            for (int caller = 0; caller < persons; caller++) {
                for (int code = 32; code <= 126; code++) {
                    boolean fits = code >= '0' && code < '0' + persons && code != '0' + caller;
                    dueFirstError(persons, caller + "-" + (char) code, fits ? 3 : 2);
                }
            }
        }
    }

    /** The same rules hold at the far end of the buffer: a wrong character at each index. */
    private static void laterCharacters() {
        String right = "0-1;1>0,".repeat(8).substring(0, Make.MOST_CHARACTERS);
        dueFirstError(2, right, 59);
        for (int i = 0; i < right.length(); i++) {
            dueFirstError(2, right.substring(0, i) + "2" + right.substring(i + 1), i);
            dueFirstError(2, right.substring(0, i) + "~" + right.substring(i + 1), i);
        }
        dueFirstError(2, right.substring(0, 58) + right.charAt(56), 58);
        dueFirstError(8, "7-0;6-7;5>5", 10);
    }

    private static void syntacticallyComplete() {
        String right = "0-1;1>0;".repeat(8).substring(0, Make.MOST_CHARACTERS);
        for (int length = 0; length <= right.length(); length++) {
            GossipSchedule s = new GossipSchedule();
            Make.write(s, right.substring(0, length));
            due("load() of " + length + " characters", s.load(),
                    length % 4 == 3 ? (length + 1) / 4 : GossipSchedule.INVALID_INPUT);
        }
        GossipSchedule s = new GossipSchedule();
        Make.write(s, "2-1");
        due("an error, and a callee as the last character", s.load(), GossipSchedule.INVALID_INPUT);
    }

    private static void mostRounds() {
        GossipSchedule s = Make.loaded(2, "0-1;".repeat(15).substring(0, Make.MOST_CHARACTERS));
        due("the longest input", s.roundCount(), 15);
        due("round 16", s.addRound(), 16);
        due("round 17", s.addRound(), GossipSchedule.TOO_MANY_ROUNDS);
        due("rounds", s.roundCount(), 16);
        GossipSchedule built = Make.schedule(8, ONE_WAY, GossipSchedule.COMPLETE);
        due("the longest scheme", built.buildGatherSpread(), 14);
        due("round 15", built.addRound(), 15);
        due("round 16", built.addRound(), 16);
        due("round 17", built.addRound(), GossipSchedule.TOO_MANY_ROUNDS);
    }

    private static void mostCalls() {
        GossipSchedule built = Make.mixed(8);
        due("twelve calls of a scheme", built.buildDoubling(), 12);
        dueRoomUpTo28(built);
        GossipSchedule loaded = Make.loaded(8, "0-1,2-3,4-5,6-7;".repeat(4).substring(0, Make.MOST_CHARACTERS));
        due("fifteen calls of the longest input", loaded.callCount(), 15);
        dueRoomUpTo28(loaded);
    }

    private static void dueRoomUpTo28(GossipSchedule s) {
        int first = s.callCount();
        for (int call = first; call < Make.MOST_CALLS; call++) {
            if ((call - first) % 4 == 0) {
                Make.addRounds(s, 1);
            }
            int caller = 2 * ((call - first) % 4);
            due("call " + call, s.addCall(caller, caller + 1, true), call);
        }
        Make.addRounds(s, 1);
        due("call 29", s.addCall(0, 1, true), GossipSchedule.TOO_MANY_CALLS);
        due("calls", s.callCount(), 28);
    }

    /** Every method that has error codes, once for each of them. */
    private static void errorsChangeNothing() {
        GossipSchedule s = Make.schedule(6, ONE_WAY, GossipSchedule.RING);
        Make.load(s, "0>1,2>3;5>0");
        Make.write(s, "0>1,1>2");
        CHECK.refused("newSchedule(9, 0)", s, () -> s.newSchedule(9, 0), GossipSchedule.OUT_OF_RANGE);
        CHECK.refused("newSchedule(2, 3)", s, () -> s.newSchedule(2, 3), GossipSchedule.OUT_OF_RANGE);
        CHECK.refused("setGraph(5)", s, () -> s.setGraph(5), GossipSchedule.OUT_OF_RANGE);
        CHECK.refused("setGraph(4)", s, () -> s.setGraph(4), GossipSchedule.WRONG_PERSON_COUNT);
        CHECK.refused("areNeighbors(6, 0)", s, () -> s.areNeighbors(6, 0), GossipSchedule.NO_SUCH_PERSON);
        CHECK.refused("addCall(0, 6)", s, () -> s.addCall(0, 6, true), GossipSchedule.NO_SUCH_PERSON);
        CHECK.refused("addCall(1, 3)", s, () -> s.addCall(1, 3, true), GossipSchedule.NOT_NEIGHBORS);
        CHECK.refused("addCall(5, 4)", s, () -> s.addCall(5, 4, true), GossipSchedule.PERSON_BUSY);
        CHECK.refused("addCall(1, 2)", s, () -> s.addCall(1, 2, false), GossipSchedule.WRONG_KIND);
        CHECK.refused("append(127)", s, () -> s.append(127), GossipSchedule.BAD_CHARACTER);
        CHECK.refused("load()", s, () -> s.load(), GossipSchedule.PERSON_BUSY);
        CHECK.refused("buildDoubling()", s, () -> s.buildDoubling(), GossipSchedule.WRONG_PERSON_COUNT);
        CHECK.refused("buildFourCore()", s, () -> s.buildFourCore(), GossipSchedule.WRONG_KIND);
        CHECK.refused("buildGatherSpread()", s, () -> s.buildGatherSpread(), GossipSchedule.NOT_NEIGHBORS);
        CHECK.refused("describeCall(3)", s, () -> s.describeCall(3), GossipSchedule.NO_SUCH_CALL);
        CHECK.refused("knowledge(6, 0)", s, () -> s.knowledge(6, 0), GossipSchedule.NO_SUCH_PERSON);
        CHECK.refused("knowledge(0, 3)", s, () -> s.knowledge(0, 3), GossipSchedule.OUT_OF_RANGE);
        CHECK.refused("averageKnowledge(3)", s, () -> s.averageKnowledge(3), GossipSchedule.OUT_OF_RANGE);
        CHECK.refused("isCritical(3)", s, () -> s.isCritical(3), GossipSchedule.NO_SUCH_CALL);
        CHECK.refused("successProbability(101)", s, () -> (int) s.successProbability(101),
                GossipSchedule.OUT_OF_RANGE);
        s.append(',');
        CHECK.refused("load()", s, () -> s.load(), GossipSchedule.INVALID_INPUT);
        fullObjectsRefuse();
    }

    private static void fullObjectsRefuse() {
        GossipSchedule empty = new GossipSchedule();
        CHECK.refused("addCall without rounds", empty, () -> empty.addCall(0, 1, false), GossipSchedule.NO_ROUND);
        CHECK.refused("removeLastRound() of none", empty, () -> empty.removeLastRound(), GossipSchedule.NO_ROUND);
        GossipSchedule full = Make.fullOfCalls(MIXED);
        Make.addRounds(full, 9);
        Make.write(full, "0".repeat(59));
        CHECK.refused("addRound()", full, () -> full.addRound(), GossipSchedule.TOO_MANY_ROUNDS);
        CHECK.refused("addCall(0, 1)", full, () -> full.addCall(0, 1, false), GossipSchedule.TOO_MANY_CALLS);
        CHECK.refused("append('0')", full, () -> full.append('0'), GossipSchedule.BUFFER_FULL);
        CHECK.refused("load()", full, () -> full.load(), GossipSchedule.INVALID_INPUT);
        CHECK.refused("smallestSufficientCalls()", full, () -> full.smallestSufficientCalls(),
                GossipSchedule.TOO_LARGE);
        CHECK.refused("successProbability(50)", full, () -> (int) full.successProbability(50),
                GossipSchedule.TOO_LARGE);
    }

    private static void newSimulator() {
        GossipSchedule s = new GossipSchedule();
        due("persons", s.personCount(), 2);
        due("rounds", s.roundCount(), 0);
        due("calls", s.callCount(), 0);
        due("no call before a round", s.addCall(0, 1, false), GossipSchedule.NO_ROUND);
        due("graph", s.setGraph(GossipSchedule.RING), GossipSchedule.COMPLETE);
        due("an empty buffer", s.clearInput(), 0);
        Make.addRounds(s, 2);
        due("one-way in mode MIXED", s.addCall(0, 1, true), 0);
        s.removeLastRound();
        due("two-way in mode MIXED", s.addCall(0, 1, false), 0);
    }
}
